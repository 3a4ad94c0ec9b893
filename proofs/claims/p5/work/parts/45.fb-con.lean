set_option maxHeartbeats 4000000 in
set_option maxRecDepth 100000 in
theorem f_go (l : Launch) (dC : Nat → ClassId) (dI : Nat → Nat → Nat) (ar : Nat → Nat) (cy : Nat → ClassId) (sz : Nat) (hN : MN ar) (st : Nat → Nat → Int32) (sl : Nat → Nat → Int64) (B : Nat → Nat) (g m : Nat) (p : Nat) (hI : MI st) (hB : MBt B g m st) (hp : st 0 5 = nI p) (hpg : p ≤ g) : Met l yX12_go wsX12_go ({ frames := 1, cells := 0, slots := 0, locals := 21 }) (va_Pc [.ref (ar 0)] (mPre dC dI ar cy sz st sl)) (va_Qv (fun (x : MT) => MG [1, 2, 3, 6, 7, 8, 9, 10, 11, 12, 13, 14, 15, 20, 21, 22, 23] st x.1 ∧ FM 1 st sl x.1 x.2 ∧ (TM B g m p x.1 x.2)) (mB dC dI ar cy) (MA ar sz)) 0 0 (MA ar sz) := by
  refine Met.ofW (cc := cX12_go) (maxL := 5) (ret := none) (by decide) rfl ?_
  intro p9 e s m9 args below meth c9 s₁ B9 hml hv
  obtain ⟨rfl, hsz, hP, hK⟩ := hv
  have hx := B9.exec
  have hb := B9.bytes
  have hr := B9.returns
  have hts := atoms_spec (ws := wsX12_go) B9.pre
  have hown : s.vm.findClass RX12 = some m9.cls := findClass_of_methodNamed B9.named
  subst hsz
  have hS : va_S (MA ar s.heap.size) s.heap s.heap [] := va_S.rf
  have hG : MG [1, 2, 3, 6, 7, 8, 9, 10, 11, 12, 13, 14, 15, 20, 21, 22, 23] st st := MG.rf hI
  have hl := lv_entry ([.ref (ar 0)]) (n := 5) (Nat.le_of_ble_eq_true rfl)
  rw [lg_entry_eq]
  generalize (lg_sl ([.ref (ar 0)]) ++ List.replicate (5 - (lg_sl ([.ref (ar 0)])).length) Slot.unset).toArray = ls at hl ⊢
  have hl : lv_has ls 5 [(0, .ref (ar 0))] := hl
  clear hI
  have hB1 := hB.2.2.1
  have hB2 := hB.2.2.2.1
  have hF : FM 1 st sl st sl := FM.rf
  refine zz_wf (fun n stk H locs ls => ∃ st1 : Nat → Nat → Int32, ∃ sl2 : Nat → Nat → Int64, ∃ u3 : Nat, n = 941 - u3 ∧ st1 0 5 = nI u3 ∧ u3 ≤ g ∧ skp B g (941 - u3) u3 = tkq B g p ∧ FM 1 st sl st1 sl2 ∧ va_P (dC, dI) vwCl (mw ar cy st1 sl2) H ∧ MG [1, 2, 3, 6, 7, 8, 9, 10, 11, 12, 13, 14, 15, 20, 21, 22, 23] st st1 ∧ va_S (MA ar s.heap.size) s.heap H locs ∧ lv_has ls 5 [(0, .ref (ar 0))] ∧ stk = []) ?_ (941 - p) _ _ _ _ ⟨st, sl, p, rfl, by rw [hp], hpg, rfl, hF, hP, hG, hS, lv_sub hl [0] rfl, rfl⟩
  rintro nn stk H locs ls ⟨st1, sl2, u3, hm6, eu3, hv4_0, hv5_1, hv6_2, hP, hG, hS, hl, rfl⟩ ih7
  have hF := hv6_2
  refine lv_aload_n hx hb dX12_go_0 rfl (lv_at hl 0 rfl) ?_
  refine va_get (D := (dC, dI)) (ci := 11) (v := .int (st1 0 5)) (C := RX12) (T := TX12) (N := 47) hx hb hts ii_X12_go hown hK hP 0 rfl rfl 5 (by decide) (hts _ mm_X12_go_1) (fun _ hh => hh) rfl dX12_go_1 ?_
  refine zz_top (v := (nI u3)) (by show st1 0 5 = _; rw [eu3]) ?_
  refine lv_aload_n hx hb dX12_go_4 rfl (lv_at hl 0 rfl) ?_
  refine va_get (D := (dC, dI)) (ci := 11) (v := .int (st1 0 3)) (C := RX12) (T := TX12) (N := 47) hx hb hts ii_X12_go hown hK hP 0 rfl rfl 3 (by decide) (hts _ mm_X12_go_2) (fun _ hh => hh) rfl dX12_go_5 ?_
  refine zz_top (v := (nI g)) (by show st1 0 3 = _; rw [(MBt.fr hB hF).1]) ?_
  refine zz_join (pcJ := 52) (fun stk H locs ls => st1 0 5 = nI (tkq B g p) ∧ va_P (dC, dI) vwCl (mw ar cy st1 sl2) H ∧ va_S (MA ar s.heap.size) s.heap H locs ∧ lv_has ls 5 [(0, .ref (ar 0))] ∧ stk = []) ?_ (fun kj8 => ?_)
  · rintro stk H locs ls ⟨hv9_0, hP, hS, hl, rfl⟩
    have hq1 := tkq_le (B := B) (g := g) (p := p)
    have hq2 := hq1.2 hpg
    refine lv_aload_n hx hb dX12_go_52 rfl (lv_at hl 0 rfl) ?_
    refine lv_aload_n hx hb dX12_go_53 rfl (lv_at hl 0 rfl) ?_
    refine va_get (D := (dC, dI)) (ci := 11) (v := .int (st1 0 5)) (C := RX12) (T := TX12) (N := 47) hx hb hts ii_X12_go hown hK hP 0 rfl rfl 5 (by decide) (hts _ mm_X12_go_1) (fun _ hh => hh) rfl dX12_go_54 ?_
    refine zz_top (v := (nI (tkq B g p))) (by show st1 0 5 = _; rw [hv9_0]) ?_
    refine va_put (D := (dC, dI)) (ci := 11) (v := .int (nI (tkq B g p))) (ty := .int) (C := RX12) (T := TX12) (N := 47) hx hb hts ii_X12_go tyX12 tyX12_ok nmX12 hown hK hP (mD hN _ _ _ _) hS 0 rfl rfl 6 (by decide) (hts _ mm_X12_go_4) (fun _ hh => hh) rfl (by decide +kernel) rfl rfl (Nat.le_of_ble_eq_true rfl) dX12_go_57 (fun H locs hP _ hS => ?_)
    have hP : va_P (dC, dI) vwCl (mw ar cy (up2 st1 0 6 (nI (tkq B g p))) sl2) H := hP
    obtain ⟨st10, est10⟩ : ∃ y, y = up2 st1 0 6 (nI (tkq B g p)) := ⟨_, rfl⟩
    have hG : MG [1, 2, 3, 6, 7, 8, 9, 10, 11, 12, 13, 14, 15, 20, 21, 22, 23] st st10 := by rw [est10]; exact hG.up (rz (by decide : mr 0 6 = 0)) (pn (by decide : pcl 0 6 = 17) (by decide))
    rw [← est10] at hP
    have hF : FM 1 st sl st10 sl2 := by rw [est10]; exact hF.up (by decide)
    refine lv_aload_n hx hb dX12_go_60 rfl (lv_at hl 0 rfl) ?_
    refine va_get (D := (dC, dI)) (ci := 11) (v := .int (st10 0 3)) (C := RX12) (T := TX12) (N := 47) hx hb hts ii_X12_go hown hK hP 0 rfl rfl 3 (by decide) (hts _ mm_X12_go_2) (fun _ hh => hh) rfl dX12_go_61 ?_
    refine zz_top (v := (nI g)) (by show st10 0 3 = _; rw [(MBt.fr hB hF).1]) ?_
    refine lv_aload_n hx hb dX12_go_64 rfl (lv_at hl 0 rfl) ?_
    refine va_get (D := (dC, dI)) (ci := 11) (v := .int (st10 0 4)) (C := RX12) (T := TX12) (N := 47) hx hb hts ii_X12_go hown hK hP 0 rfl rfl 4 (by decide) (hts _ mm_X12_go_5) (fun _ hh => hh) rfl dX12_go_65 ?_
    refine zz_top (v := (nI m)) (by show st10 0 4 = _; rw [(MBt.fr hB hF).2.1]) ?_
    refine zz_join (pcJ := 96) (fun stk H locs ls => ¬ (m < g ∧ m ≤ tkq B g p) ∧ va_P (dC, dI) vwCl (mw ar cy st10 sl2) H ∧ va_S (MA ar s.heap.size) s.heap H locs ∧ lv_has ls 5 [(0, .ref (ar 0))] ∧ stk = []) ?_ (fun kj11 => ?_)
    · rintro stk H locs ls ⟨hv12_0, hP, hS, hl, rfl⟩
      refine lv_aload_n hx hb dX12_go_96 rfl (lv_at hl 0 rfl) ?_
      refine va_get (D := (dC, dI)) (ci := 11) (v := .int (st10 0 5)) (C := RX12) (T := TX12) (N := 47) hx hb hts ii_X12_go hown hK hP 0 rfl rfl 5 (by decide) (hts _ mm_X12_go_1) (fun _ hh => hh) rfl dX12_go_97 ?_
      refine zz_top (v := (nI (tkq B g p))) (by show st10 0 5 = _; rw [est10, up2_ne (r := 0) (k := 6) (a := 0) (j := 5) _ _ (by omega), hv9_0]) ?_
      refine lv_aload_n hx hb dX12_go_100 rfl (lv_at hl 0 rfl) ?_
      refine va_get (D := (dC, dI)) (ci := 11) (v := .int (st10 0 3)) (C := RX12) (T := TX12) (N := 47) hx hb hts ii_X12_go hown hK hP 0 rfl rfl 3 (by decide) (hts _ mm_X12_go_2) (fun _ hh => hh) rfl dX12_go_101 ?_
      refine zz_top (v := (nI g)) (by show st10 0 3 = _; rw [(MBt.fr hB hF).1]) ?_
      refine lv_icmp_lt (tgt := 113) hx hb dX12_go_104 (by decide) (fun c1 => ?_) (fun c1 => ?_)
      · have c1 : (tkq B g p) < g := (nI_ltI (a := (tkq B g p)) (b := g) (by omega) (by omega)).mp c1
        refine lv_aload_n hx hb dX12_go_113 rfl (lv_at hl 0 rfl) ?_
        refine va_get (D := (dC, dI)) (ci := 11) (v := .ref (ar 1)) (C := RX12) (T := TX12) (N := 47) hx hb hts ii_X12_go hown hK hP 0 rfl rfl 1 (by decide) (hts _ mm_X12_go_3) (fun _ hh => hh) rfl dX12_go_114 ?_
        refine lv_aload_n hx hb dX12_go_117 rfl (lv_at hl 0 rfl) ?_
        refine va_get (D := (dC, dI)) (ci := 11) (v := .int (st10 0 5)) (C := RX12) (T := TX12) (N := 47) hx hb hts ii_X12_go hown hK hP 0 rfl rfl 5 (by decide) (hts _ mm_X12_go_1) (fun _ hh => hh) rfl dX12_go_118 ?_
        refine zz_top (v := (nI (tkq B g p))) (by show st10 0 5 = _; rw [est10, up2_ne (r := 0) (k := 6) (a := 0) (j := 5) _ _ (by omega), hv9_0]) ?_
        refine va_iald hx hb hK hP 1 0 rfl rfl (i := (nI (tkq B g p))) (vp_in_nI (by omega) (by decide)) dX12_go_121 ?_
        refine zz_top (v := nI (B (tkq B g p))) (by rw [nI_clamp (by omega)]; exact ((MBt.fr hB hF).2.2.2.2 (tkq B g p) (by omega)).1) ?_
        have hq13 := (hB.2.2.2.2 (tkq B g p) (by omega)).2
        refine lv_istore_n (lv' := [(1, .int (nI (B (tkq B g p)))), (0, .ref (ar 0))]) hx hb dX12_go_122 rfl hl (by decide) rfl (fun ls hl => ?_)
        refine zz_join (pcJ := 198) (fun stk H locs ls => (qL (B (tkq B g p)) ∨ qD (B (tkq B g p))) ∧ va_P (dC, dI) vwCl (mw ar cy st10 sl2) H ∧ va_S (MA ar s.heap.size) s.heap H locs ∧ lv_has ls 5 [(1, .int (nI (B (tkq B g p)))), (0, .ref (ar 0))] ∧ stk = []) ?_ (fun kj14 => ?_)
        · rintro stk H locs ls ⟨hv15_0, hP, hS, hl, rfl⟩
          refine zz_join (pcJ := 202) (fun stk H locs ls => ∃ k16 : Nat, k16 < 2 ∧ (k16 = 1 ↔ 97 ≤ B (tkq B g p) ∧ B (tkq B g p) ≤ 122) ∧ va_P (dC, dI) vwCl (mw ar cy st10 sl2) H ∧ va_S (MA ar s.heap.size) s.heap H locs ∧ lv_has ls 5 [(1, .int (nI (B (tkq B g p)))), (0, .ref (ar 0))] ∧ stk = [.int (nI k16)]) ?_ (fun kj17 => ?_)
          · rintro stk H locs ls ⟨k16, hv18_0, hv19_0, hP, hS, hl, rfl⟩
            refine lv_istore_n (lv' := [(2, .int (nI k16)), (1, .int (nI (B (tkq B g p)))), (0, .ref (ar 0))]) hx hb dX12_go_202 rfl hl (by decide) rfl (fun ls hl => ?_)
            refine lv_iconst (v := 1) hx hb dX12_go_203 (by decide) ?_
            refine lv_istore_n (lv' := [(3, .int 1), (2, .int (nI k16)), (1, .int (nI (B (tkq B g p)))), (0, .ref (ar 0))]) hx hb dX12_go_204 rfl hl (by decide) rfl (fun ls hl => ?_)
            refine lv_aload_n hx hb dX12_go_205 rfl (lv_at hl 3 rfl) ?_
            refine lv_lconst (v := 0) hx hb dX12_go_206 (by decide) ?_
            refine va_put (D := (dC, dI)) (ci := 11) (v := .long 0) (ty := .long) (C := RX12) (T := TX12) (N := 47) hx hb hts ii_X12_go tyX12 tyX12_ok nmX12 hown hK hP (mD hN _ _ _ _) hS 0 rfl rfl 12 (by decide) (hts _ mm_X12_go_8) (fun _ hh => hh) rfl (by decide +kernel) rfl rfl (Nat.le_of_ble_eq_true rfl) dX12_go_207 (fun H locs hP _ hS => ?_)
            have hP : va_P (dC, dI) vwCl (mw ar cy st10 (upL sl2 0 12 0)) H := hP
            obtain ⟨sl20, esl20⟩ : ∃ y, y = upL sl2 0 12 0 := ⟨_, rfl⟩
            rw [← esl20] at hP
            have hF : FM 1 st sl st10 sl20 := by rw [esl20]; exact hF.upL (by decide)
            refine lv_aload_n hx hb dX12_go_210 rfl (lv_at hl 3 rfl) ?_
            refine lv_iconst (v := 0) hx hb dX12_go_211 (by decide) ?_
            refine va_put (D := (dC, dI)) (ci := 11) (v := .int 0) (ty := .int) (C := RX12) (T := TX12) (N := 47) hx hb hts ii_X12_go tyX12 tyX12_ok nmX12 hown hK hP (mD hN _ _ _ _) hS 0 rfl rfl 8 (by decide) (hts _ mm_X12_go_9) (fun _ hh => hh) rfl (by decide +kernel) rfl rfl (Nat.le_of_ble_eq_true rfl) dX12_go_212 (fun H locs hP _ hS => ?_)
            have hP : va_P (dC, dI) vwCl (mw ar cy (up2 st10 0 8 0) sl20) H := hP
            obtain ⟨st21, est21⟩ : ∃ y, y = up2 st10 0 8 0 := ⟨_, rfl⟩
            have hG : MG [1, 2, 3, 6, 7, 8, 9, 10, 11, 12, 13, 14, 15, 20, 21, 22, 23] st st21 := by rw [est21]; exact hG.up (rz (by decide : mr 0 8 = 0)) (pn (by decide : pcl 0 8 = 0) (by decide))
            rw [← est21] at hP
            have hF : FM 1 st sl st21 sl20 := by rw [est21]; exact hF.up (by decide)
            refine zz_wf (fun n stk H locs ls => ∃ k22 : Nat, ∃ st23 : Nat → Nat → Int32, ∃ sl24 : Nat → Nat → Int64, ∃ u25 : Nat, n = 941 - u25 ∧ 0 ≤ k22 ∧ k22 < 2 ∧ st23 0 5 = nI u25 ∧ (tkq B g p) ≤ u25 ∧ u25 ≤ g ∧ rne B g (941 - u25) u25 = tke B g p ∧ ((k22 = 1 ↔ (k16 = 1 ∧ cnL B (tkq B g p) (u25 - (tkq B g p)) = (u25 - (tkq B g p))) ∨ (k16 = 0 ∧ cnL B (tkq B g p) (u25 - (tkq B g p)) = 0))) ∧ (cnL B (tkq B g p) (u25 - (tkq B g p)) = (u25 - (tkq B g p)) ∧ (u25 - (tkq B g p)) ≤ 7 → sl24 0 12 = lN (cd7 B (tkq B g p) (u25 - (tkq B g p)))) ∧ (cnL B (tkq B g p) (u25 - (tkq B g p)) = 0 ∧ (u25 - (tkq B g p)) ≤ 3 → st23 0 8 = nI (nmb B (tkq B g p) (u25 - (tkq B g p)))) ∧ st23 0 6 = nI (tkq B g p) ∧ FM 1 st sl st23 sl24 ∧ va_P (dC, dI) vwCl (mw ar cy st23 sl24) H ∧ MG [1, 2, 3, 6, 7, 8, 9, 10, 11, 12, 13, 14, 15, 20, 21, 22, 23] st st23 ∧ va_S (MA ar s.heap.size) s.heap H locs ∧ lv_has ls 5 [(3, .int (nI k22)), (2, .int (nI k16)), (1, .int (nI (B (tkq B g p)))), (0, .ref (ar 0))] ∧ stk = []) ?_ (941 - (tkq B g p)) _ _ _ _ ⟨1, st21, sl20, (tkq B g p), rfl, by omega, by omega, by rw [est21, up2_ne (r := 0) (k := 8) (a := 0) (j := 5) _ _ (by omega), est10, up2_ne (r := 0) (k := 6) (a := 0) (j := 5) _ _ (by omega), hv9_0], by omega, by omega, rfl, by rw [Nat.sub_self]; show (1 = 1 ↔ (k16 = 1 ∧ 0 = 0) ∨ (k16 = 0 ∧ 0 = 0)); omega, fun _ => by rw [Nat.sub_self, esl20, upL_same]; rfl, fun _ => by rw [Nat.sub_self]; show st21 0 8 = _; rw [est21, up2_same]; rfl, (by show st21 0 6 = _; rw [est21, up2_ne (r := 0) (k := 8) (a := 0) (j := 6) _ _ (by omega), est10, up2_same]), hF, hP, hG, hS, lv_sub hl [0, 1, 2, 3] rfl, rfl⟩
            rintro nn stk H locs ls ⟨k22, st23, sl24, u25, hm35, hv26_0, hv27_1, eu25, hv28_0, hv29_1, hv30_2, hv31_3, hv32_4, hv33_5, hv34_6, hv35_7, hP, hG, hS, hl, rfl⟩ ih36
            have hF := hv35_7
            have hc8 := cnL_le (B := B) (q := (tkq B g p)) (u25 - (tkq B g p))
            refine lv_aload_n hx hb dX12_go_215 rfl (lv_at hl 3 rfl) ?_
            refine lv_aload_n hx hb dX12_go_216 rfl (lv_at hl 3 rfl) ?_
            refine va_get (D := (dC, dI)) (ci := 11) (v := .int (st23 0 5)) (C := RX12) (T := TX12) (N := 47) hx hb hts ii_X12_go hown hK hP 0 rfl rfl 5 (by decide) (hts _ mm_X12_go_1) (fun _ hh => hh) rfl dX12_go_217 ?_
            refine zz_top (v := (nI u25)) (by show st23 0 5 = _; rw [eu25]) ?_
            refine va_calli (va_runV (As := [.int (nI u25)]) (rest := []) ⟨hx, hb, hml, hown, hts⟩ (f_tapeAt l dC dI ar cy _ hN st23 sl24 u25 B g m (by omega) hG.1 (MBt.fr hB hF)) (cwV 1 hts gX12_go_X12_tapeAt rfl rfl rfl (by decide +kernel) ⟨Nat.le_of_ble_eq_true rfl, Nat.le_of_ble_eq_true rfl⟩) ⟨fun a U g mk q => ⟨q.1, mPre.blind q.2⟩, va_recv hK hP (ci := 11) (q0 := 0) rfl rfl, fun U hU hW => ⟨rfl, mPre.of hP hK hU hW⟩⟩ rfl rfl hl.1 rfl (lv_room (Nat.le_of_ble_eq_true rfl)) dX12_go_220 ⟨Nat.le_of_ble_eq_true rfl, Nat.le_of_ble_eq_true rfl⟩) hS (fun q _ h => MA.le hS.1 q h) (MA.le hS.1) (fun r37 x t H locs ht hvm hw hB9 _ _ hS => ?_)
            have hP := mB.at ht hB9
            clear hB9 ht hvm
            obtain ⟨rfl, hw⟩ := hw
            have hP : va_P (dC, dI) vwCl (mw ar cy st23 sl24) _ := hP
            rcases hw with ⟨rfl, hf38⟩ | ⟨n39, rfl, hf40, hf41, hf42⟩
            · refine va_calli (va_runS (As := [.int 0]) (rest := []) ⟨hx, hb, hml, hown, hts⟩ (f_isLetterN l dC dI ar cy _ hN st23 sl24 0 (by omega) hG.1 ) (va_cwS 1 hts gX12_go_X12_isLetter rfl rfl rfl (by decide +kernel) ⟨Nat.le_of_ble_eq_true rfl, Nat.le_of_ble_eq_true rfl⟩) ⟨fun a U g mk q => ⟨q.1, mPre.blind q.2⟩, fun U hU hW => ⟨rfl, mPre.of hP hK hU hW⟩⟩ rfl rfl hl.1 rfl (lv_room (Nat.le_of_ble_eq_true rfl)) dX12_go_223 ⟨Nat.le_of_ble_eq_true rfl, Nat.le_of_ble_eq_true rfl⟩) hS (fun q _ h => MA.le hS.1 q h) (MA.le hS.1) (fun r43 x t H locs ht hvm hw hB9 _ _ hS => ?_)
              have hP := mB.at ht hB9
              clear hB9 ht hvm
              obtain ⟨rfl, hw⟩ := hw
              have hP : va_P (dC, dI) vwCl (mw ar cy st23 sl24) _ := hP
              rcases hw with ⟨rfl, hf44, hf45⟩ | ⟨rfl, hf46⟩
              · omega
              · refine lv_if_ne (tgt := 243) hx hb dX12_go_226 (by decide) (fun cc => absurd (by decide) cc) (fun _ => ?_)
                refine lv_aload_n hx hb dX12_go_229 rfl (lv_at hl 3 rfl) ?_
                refine lv_aload_n hx hb dX12_go_230 rfl (lv_at hl 3 rfl) ?_
                refine va_get (D := (dC, dI)) (ci := 11) (v := .int (st23 0 5)) (C := RX12) (T := TX12) (N := 47) hx hb hts ii_X12_go hown hK hP 0 rfl rfl 5 (by decide) (hts _ mm_X12_go_1) (fun _ hh => hh) rfl dX12_go_231 ?_
                refine zz_top (v := (nI u25)) (by show st23 0 5 = _; rw [eu25]) ?_
                refine va_calli (va_runV (As := [.int (nI u25)]) (rest := []) ⟨hx, hb, hml, hown, hts⟩ (f_tapeAt l dC dI ar cy _ hN st23 sl24 u25 B g m (by omega) hG.1 (MBt.fr hB hF)) (cwV 1 hts gX12_go_X12_tapeAt rfl rfl rfl (by decide +kernel) ⟨Nat.le_of_ble_eq_true rfl, Nat.le_of_ble_eq_true rfl⟩) ⟨fun a U g mk q => ⟨q.1, mPre.blind q.2⟩, va_recv hK hP (ci := 11) (q0 := 0) rfl rfl, fun U hU hW => ⟨rfl, mPre.of hP hK hU hW⟩⟩ rfl rfl hl.1 rfl (lv_room (Nat.le_of_ble_eq_true rfl)) dX12_go_234 ⟨Nat.le_of_ble_eq_true rfl, Nat.le_of_ble_eq_true rfl⟩) hS (fun q _ h => MA.le hS.1 q h) (MA.le hS.1) (fun r47 x t H locs ht hvm hw hB9 _ _ hS => ?_)
                have hP := mB.at ht hB9
                clear hB9 ht hvm
                obtain ⟨rfl, hw⟩ := hw
                have hP : va_P (dC, dI) vwCl (mw ar cy st23 sl24) _ := hP
                rcases hw with ⟨rfl, hf48⟩ | ⟨n49, rfl, hf50, hf51, hf52⟩
                · refine va_calli (va_runS (As := [.int 0]) (rest := []) ⟨hx, hb, hml, hown, hts⟩ (f_isDigitN l dC dI ar cy _ hN st23 sl24 0 (by omega) hG.1 ) (va_cwS 1 hts gX12_go_X12_isDigit rfl rfl rfl (by decide +kernel) ⟨Nat.le_of_ble_eq_true rfl, Nat.le_of_ble_eq_true rfl⟩) ⟨fun a U g mk q => ⟨q.1, mPre.blind q.2⟩, fun U hU hW => ⟨rfl, mPre.of hP hK hU hW⟩⟩ rfl rfl hl.1 rfl (lv_room (Nat.le_of_ble_eq_true rfl)) dX12_go_237 ⟨Nat.le_of_ble_eq_true rfl, Nat.le_of_ble_eq_true rfl⟩) hS (fun q _ h => MA.le hS.1 q h) (MA.le hS.1) (fun r53 x t H locs ht hvm hw hB9 _ _ hS => ?_)
                  have hP := mB.at ht hB9
                  clear hB9 ht hvm
                  obtain ⟨rfl, hw⟩ := hw
                  have hP : va_P (dC, dI) vwCl (mw ar cy st23 sl24) _ := hP
                  rcases hw with ⟨rfl, hf54, hf55⟩ | ⟨rfl, hf56⟩
                  · omega
                  · refine lv_if_eq (tgt := 350) hx hb dX12_go_240 (by decide) (fun _ => ?_) (fun cc => absurd (by decide) cc)
                    refine lv_aload_n hx hb dX12_go_350 rfl (lv_at hl 3 rfl) ?_
                    refine lv_iload_n hx hb dX12_go_351 rfl (lv_at hl 0 rfl) ?_
                    refine lv_if_eq (tgt := 377) hx hb dX12_go_352 (by decide) (fun c4 => ?_) (fun c4 => ?_)
                    · have c4 : k22 = 0 := (nI_eq (a := k22) (b := 0) (by omega) (by omega)).mp c4
                      refine lv_iconst (v := 1) hx hb dX12_go_377 (by decide) ?_
                      refine lv_goto (tgt := 390) hx hb dX12_go_378 (by decide) ?_
                      refine va_put (D := (dC, dI)) (ci := 11) (v := .int 1) (ty := .int) (C := RX12) (T := TX12) (N := 47) hx hb hts ii_X12_go tyX12 tyX12_ok nmX12 hown hK hP (mD hN _ _ _ _) hS 0 rfl rfl 7 (by decide) (hts _ mm_X12_go_6) (fun _ hh => hh) rfl (by decide +kernel) rfl rfl (Nat.le_of_ble_eq_true rfl) dX12_go_390 (fun H locs hP _ hS => ?_)
                      have hP : va_P (dC, dI) vwCl (mw ar cy (up2 st23 0 7 1) sl24) H := hP
                      obtain ⟨st57, est57⟩ : ∃ y, y = up2 st23 0 7 1 := ⟨_, rfl⟩
                      have hG : MG [1, 2, 3, 6, 7, 8, 9, 10, 11, 12, 13, 14, 15, 20, 21, 22, 23] st st57 := by rw [est57]; exact hG.up (rz (by decide : mr 0 7 = 0)) (pn (by decide : pcl 0 7 = 5) (by decide))
                      rw [← est57] at hP
                      have hF : FM 1 st sl st57 sl24 := by rw [est57]; exact hF.up (by decide)
                      have he9 : tke B g p = u25 := hv30_2.symm.trans (rne_n (fun hh => by have h1 := hh.1; have h2 : (97 ≤ B u25 ∧ B u25 ≤ 122) ∨ (48 ≤ B u25 ∧ B u25 ≤ 57) := hh.2; omega))
                      have hn9 : tkn B g p = u25 - (tkq B g p) := by unfold tkn; rw [he9]
                      have hc9 := cnL_le (B := B) (q := (tkq B g p)) (u25 - (tkq B g p))
                      have hn8 := tkn_pos (B := B) (g := g) (p := p) (by omega) hB1 (by omega) hv15_0
                      have hl9 := cnL_first (B := B) (q := (tkq B g p)) (u25 - (tkq B g p))
                      exact W.vret hx hb hr (fun t ht hW => ⟨⟨(st57, sl24), rfl, ⟨hG, hF, TM.run hpg hB1 hv12_0 (by omega) hv15_0 1 (by rw [hn9]; omega) (by rw [he9]; exact (by show st57 0 5 = _; rw [est57, up2_ne (r := 0) (k := 7) (a := 0) (j := 5) _ _ (by omega), eu25])) (by show st57 0 6 = _; rw [est57, up2_ne (r := 0) (k := 7) (a := 0) (j := 6) _ _ (by omega), hv34_6]) (by show st57 0 7 = _; rw [est57, up2_same]; rfl) (fun hh => absurd hh (by omega)) (fun hh => absurd hh (by omega))⟩, mB.of ht hP⟩, hS.F ht⟩) hS.2.2 dX12_go_393
                    · have c4 : ¬ k22 = 0 := fun hh => c4 ((nI_eq (a := k22) (b := 0) (by omega) (by omega)).mpr hh)
                      refine lv_aload_n hx hb dX12_go_355 rfl (lv_at hl 3 rfl) ?_
                      refine va_get (D := (dC, dI)) (ci := 11) (v := .int (st23 0 5)) (C := RX12) (T := TX12) (N := 47) hx hb hts ii_X12_go hown hK hP 0 rfl rfl 5 (by decide) (hts _ mm_X12_go_1) (fun _ hh => hh) rfl dX12_go_356 ?_
                      refine zz_top (v := (nI u25)) (by show st23 0 5 = _; rw [eu25]) ?_
                      refine lv_aload_n hx hb dX12_go_359 rfl (lv_at hl 3 rfl) ?_
                      refine va_get (D := (dC, dI)) (ci := 11) (v := .int (st23 0 6)) (C := RX12) (T := TX12) (N := 47) hx hb hts ii_X12_go hown hK hP 0 rfl rfl 6 (by decide) (hts _ mm_X12_go_4) (fun _ hh => hh) rfl dX12_go_360 ?_
                      refine zz_top (v := (nI (tkq B g p))) (by show st23 0 6 = _; rw [hv34_6]) ?_
                      refine lv_isub hx hb dX12_go_363 ?_
                      refine zz_top (v := nI (u25 - (tkq B g p))) (nI_subN (a := u25) (b := (tkq B g p)) (by omega) (by omega)) ?_
                      refine lv_iload_n hx hb dX12_go_364 rfl (lv_at hl 1 rfl) ?_
                      refine lv_if_eq (tgt := 373) hx hb dX12_go_365 (by decide) (fun c5 => ?_) (fun c5 => ?_)
                      · have c5 : k16 = 0 := (nI_eq (a := k16) (b := 0) (by omega) (by omega)).mp c5
                        refine lv_iconst (v := 3) hx hb dX12_go_373 (by decide) ?_
                        refine lv_icmp_le (tgt := 381) hx hb dX12_go_374 (by decide) (fun c6 => ?_) (fun c6 => ?_)
                        · have c6 : (u25 - (tkq B g p)) ≤ 3 := (nI_leI (a := (u25 - (tkq B g p))) (b := 3) (by omega) (by omega)).mp c6
                          refine lv_iload_n hx hb dX12_go_381 rfl (lv_at hl 1 rfl) ?_
                          refine lv_if_eq (tgt := 389) hx hb dX12_go_382 (by decide) (fun c7 => ?_) (fun c7 => ?_)
                          · have c7 : k16 = 0 := (nI_eq (a := k16) (b := 0) (by omega) (by omega)).mp c7
                            refine lv_iconst (v := 3) hx hb dX12_go_389 (by decide) ?_
                            refine va_put (D := (dC, dI)) (ci := 11) (v := .int 3) (ty := .int) (C := RX12) (T := TX12) (N := 47) hx hb hts ii_X12_go tyX12 tyX12_ok nmX12 hown hK hP (mD hN _ _ _ _) hS 0 rfl rfl 7 (by decide) (hts _ mm_X12_go_6) (fun _ hh => hh) rfl (by decide +kernel) rfl rfl (Nat.le_of_ble_eq_true rfl) dX12_go_390 (fun H locs hP _ hS => ?_)
                            have hP : va_P (dC, dI) vwCl (mw ar cy (up2 st23 0 7 3) sl24) H := hP
                            obtain ⟨st58, est58⟩ : ∃ y, y = up2 st23 0 7 3 := ⟨_, rfl⟩
                            have hG : MG [1, 2, 3, 6, 7, 8, 9, 10, 11, 12, 13, 14, 15, 20, 21, 22, 23] st st58 := by rw [est58]; exact hG.up (rz (by decide : mr 0 7 = 0)) (pn (by decide : pcl 0 7 = 5) (by decide))
                            rw [← est58] at hP
                            have hF : FM 1 st sl st58 sl24 := by rw [est58]; exact hF.up (by decide)
                            have he9 : tke B g p = u25 := hv30_2.symm.trans (rne_n (fun hh => by have h1 := hh.1; have h2 : (97 ≤ B u25 ∧ B u25 ≤ 122) ∨ (48 ≤ B u25 ∧ B u25 ≤ 57) := hh.2; omega))
                            have hn9 : tkn B g p = u25 - (tkq B g p) := by unfold tkn; rw [he9]
                            have hc9 := cnL_le (B := B) (q := (tkq B g p)) (u25 - (tkq B g p))
                            have hn8 := tkn_pos (B := B) (g := g) (p := p) (by omega) hB1 (by omega) hv15_0
                            have hl9 := cnL_first (B := B) (q := (tkq B g p)) (u25 - (tkq B g p))
                            exact W.vret hx hb hr (fun t ht hW => ⟨⟨(st58, sl24), rfl, ⟨hG, hF, TM.run hpg hB1 hv12_0 (by omega) hv15_0 3 (by rw [hn9]; omega) (by rw [he9]; exact (by show st58 0 5 = _; rw [est58, up2_ne (r := 0) (k := 7) (a := 0) (j := 5) _ _ (by omega), eu25])) (by show st58 0 6 = _; rw [est58, up2_ne (r := 0) (k := 7) (a := 0) (j := 6) _ _ (by omega), hv34_6]) (by show st58 0 7 = _; rw [est58, up2_same]; rfl) (fun _ => by rw [hn9]; show st58 0 8 = _; rw [est58, up2_ne (r := 0) (k := 7) (a := 0) (j := 8) _ _ (by omega)]; exact hv33_5 (by omega)) (fun hh => absurd hh (by omega))⟩, mB.of ht hP⟩, hS.F ht⟩) hS.2.2 dX12_go_393
                          · have c7 : ¬ k16 = 0 := fun hh => c7 ((nI_eq (a := k16) (b := 0) (by omega) (by omega)).mpr hh)
                            refine lv_iconst (v := 2) hx hb dX12_go_385 (by decide) ?_
                            refine lv_goto (tgt := 390) hx hb dX12_go_386 (by decide) ?_
                            refine va_put (D := (dC, dI)) (ci := 11) (v := .int 2) (ty := .int) (C := RX12) (T := TX12) (N := 47) hx hb hts ii_X12_go tyX12 tyX12_ok nmX12 hown hK hP (mD hN _ _ _ _) hS 0 rfl rfl 7 (by decide) (hts _ mm_X12_go_6) (fun _ hh => hh) rfl (by decide +kernel) rfl rfl (Nat.le_of_ble_eq_true rfl) dX12_go_390 (fun H locs hP _ hS => ?_)
                            have hP : va_P (dC, dI) vwCl (mw ar cy (up2 st23 0 7 2) sl24) H := hP
                            obtain ⟨st59, est59⟩ : ∃ y, y = up2 st23 0 7 2 := ⟨_, rfl⟩
                            have hG : MG [1, 2, 3, 6, 7, 8, 9, 10, 11, 12, 13, 14, 15, 20, 21, 22, 23] st st59 := by rw [est59]; exact hG.up (rz (by decide : mr 0 7 = 0)) (pn (by decide : pcl 0 7 = 5) (by decide))
                            rw [← est59] at hP
                            have hF : FM 1 st sl st59 sl24 := by rw [est59]; exact hF.up (by decide)
                            have he9 : tke B g p = u25 := hv30_2.symm.trans (rne_n (fun hh => by have h1 := hh.1; have h2 : (97 ≤ B u25 ∧ B u25 ≤ 122) ∨ (48 ≤ B u25 ∧ B u25 ≤ 57) := hh.2; omega))
                            have hn9 : tkn B g p = u25 - (tkq B g p) := by unfold tkn; rw [he9]
                            have hc9 := cnL_le (B := B) (q := (tkq B g p)) (u25 - (tkq B g p))
                            have hn8 := tkn_pos (B := B) (g := g) (p := p) (by omega) hB1 (by omega) hv15_0
                            have hl9 := cnL_first (B := B) (q := (tkq B g p)) (u25 - (tkq B g p))
                            exact W.vret hx hb hr (fun t ht hW => ⟨⟨(st59, sl24), rfl, ⟨hG, hF, TM.run hpg hB1 hv12_0 (by omega) hv15_0 2 (by rw [hn9]; omega) (by rw [he9]; exact (by show st59 0 5 = _; rw [est59, up2_ne (r := 0) (k := 7) (a := 0) (j := 5) _ _ (by omega), eu25])) (by show st59 0 6 = _; rw [est59, up2_ne (r := 0) (k := 7) (a := 0) (j := 6) _ _ (by omega), hv34_6]) (by show st59 0 7 = _; rw [est59, up2_same]; rfl) (fun hh => absurd hh (by omega)) (fun _ => by rw [hn9]; exact hv32_4 (by omega))⟩, mB.of ht hP⟩, hS.F ht⟩) hS.2.2 dX12_go_393
                        · have c6 : ¬ (u25 - (tkq B g p)) ≤ 3 := fun hh => c6 ((nI_leI (a := (u25 - (tkq B g p))) (b := 3) (by omega) (by omega)).mpr hh)
                          refine lv_iconst (v := 1) hx hb dX12_go_377 (by decide) ?_
                          refine lv_goto (tgt := 390) hx hb dX12_go_378 (by decide) ?_
                          refine va_put (D := (dC, dI)) (ci := 11) (v := .int 1) (ty := .int) (C := RX12) (T := TX12) (N := 47) hx hb hts ii_X12_go tyX12 tyX12_ok nmX12 hown hK hP (mD hN _ _ _ _) hS 0 rfl rfl 7 (by decide) (hts _ mm_X12_go_6) (fun _ hh => hh) rfl (by decide +kernel) rfl rfl (Nat.le_of_ble_eq_true rfl) dX12_go_390 (fun H locs hP _ hS => ?_)
                          have hP : va_P (dC, dI) vwCl (mw ar cy (up2 st23 0 7 1) sl24) H := hP
                          obtain ⟨st60, est60⟩ : ∃ y, y = up2 st23 0 7 1 := ⟨_, rfl⟩
                          have hG : MG [1, 2, 3, 6, 7, 8, 9, 10, 11, 12, 13, 14, 15, 20, 21, 22, 23] st st60 := by rw [est60]; exact hG.up (rz (by decide : mr 0 7 = 0)) (pn (by decide : pcl 0 7 = 5) (by decide))
                          rw [← est60] at hP
                          have hF : FM 1 st sl st60 sl24 := by rw [est60]; exact hF.up (by decide)
                          have he9 : tke B g p = u25 := hv30_2.symm.trans (rne_n (fun hh => by have h1 := hh.1; have h2 : (97 ≤ B u25 ∧ B u25 ≤ 122) ∨ (48 ≤ B u25 ∧ B u25 ≤ 57) := hh.2; omega))
                          have hn9 : tkn B g p = u25 - (tkq B g p) := by unfold tkn; rw [he9]
                          have hc9 := cnL_le (B := B) (q := (tkq B g p)) (u25 - (tkq B g p))
                          have hn8 := tkn_pos (B := B) (g := g) (p := p) (by omega) hB1 (by omega) hv15_0
                          have hl9 := cnL_first (B := B) (q := (tkq B g p)) (u25 - (tkq B g p))
                          exact W.vret hx hb hr (fun t ht hW => ⟨⟨(st60, sl24), rfl, ⟨hG, hF, TM.run hpg hB1 hv12_0 (by omega) hv15_0 1 (by rw [hn9]; omega) (by rw [he9]; exact (by show st60 0 5 = _; rw [est60, up2_ne (r := 0) (k := 7) (a := 0) (j := 5) _ _ (by omega), eu25])) (by show st60 0 6 = _; rw [est60, up2_ne (r := 0) (k := 7) (a := 0) (j := 6) _ _ (by omega), hv34_6]) (by show st60 0 7 = _; rw [est60, up2_same]; rfl) (fun hh => absurd hh (by omega)) (fun hh => absurd hh (by omega))⟩, mB.of ht hP⟩, hS.F ht⟩) hS.2.2 dX12_go_393
                      · have c5 : ¬ k16 = 0 := fun hh => c5 ((nI_eq (a := k16) (b := 0) (by omega) (by omega)).mpr hh)
                        refine lv_bipush (v := 7) hx hb dX12_go_368 (by decide) ?_
                        refine lv_goto (tgt := 374) hx hb dX12_go_370 (by decide) ?_
                        refine lv_icmp_le (tgt := 381) hx hb dX12_go_374 (by decide) (fun c8 => ?_) (fun c8 => ?_)
                        · have c8 : (u25 - (tkq B g p)) ≤ 7 := (nI_leI (a := (u25 - (tkq B g p))) (b := 7) (by omega) (by omega)).mp c8
                          refine lv_iload_n hx hb dX12_go_381 rfl (lv_at hl 1 rfl) ?_
                          refine lv_if_eq (tgt := 389) hx hb dX12_go_382 (by decide) (fun cc => absurd ((nI_eq (a := k16) (b := 0) (by omega) (by omega)).mp cc) (by omega)) (fun _ => ?_)
                          refine lv_iconst (v := 2) hx hb dX12_go_385 (by decide) ?_
                          refine lv_goto (tgt := 390) hx hb dX12_go_386 (by decide) ?_
                          refine va_put (D := (dC, dI)) (ci := 11) (v := .int 2) (ty := .int) (C := RX12) (T := TX12) (N := 47) hx hb hts ii_X12_go tyX12 tyX12_ok nmX12 hown hK hP (mD hN _ _ _ _) hS 0 rfl rfl 7 (by decide) (hts _ mm_X12_go_6) (fun _ hh => hh) rfl (by decide +kernel) rfl rfl (Nat.le_of_ble_eq_true rfl) dX12_go_390 (fun H locs hP _ hS => ?_)
                          have hP : va_P (dC, dI) vwCl (mw ar cy (up2 st23 0 7 2) sl24) H := hP
                          obtain ⟨st61, est61⟩ : ∃ y, y = up2 st23 0 7 2 := ⟨_, rfl⟩
                          have hG : MG [1, 2, 3, 6, 7, 8, 9, 10, 11, 12, 13, 14, 15, 20, 21, 22, 23] st st61 := by rw [est61]; exact hG.up (rz (by decide : mr 0 7 = 0)) (pn (by decide : pcl 0 7 = 5) (by decide))
                          rw [← est61] at hP
                          have hF : FM 1 st sl st61 sl24 := by rw [est61]; exact hF.up (by decide)
                          have he9 : tke B g p = u25 := hv30_2.symm.trans (rne_n (fun hh => by have h1 := hh.1; have h2 : (97 ≤ B u25 ∧ B u25 ≤ 122) ∨ (48 ≤ B u25 ∧ B u25 ≤ 57) := hh.2; omega))
                          have hn9 : tkn B g p = u25 - (tkq B g p) := by unfold tkn; rw [he9]
                          have hc9 := cnL_le (B := B) (q := (tkq B g p)) (u25 - (tkq B g p))
                          have hn8 := tkn_pos (B := B) (g := g) (p := p) (by omega) hB1 (by omega) hv15_0
                          have hl9 := cnL_first (B := B) (q := (tkq B g p)) (u25 - (tkq B g p))
                          exact W.vret hx hb hr (fun t ht hW => ⟨⟨(st61, sl24), rfl, ⟨hG, hF, TM.run hpg hB1 hv12_0 (by omega) hv15_0 2 (by rw [hn9]; omega) (by rw [he9]; exact (by show st61 0 5 = _; rw [est61, up2_ne (r := 0) (k := 7) (a := 0) (j := 5) _ _ (by omega), eu25])) (by show st61 0 6 = _; rw [est61, up2_ne (r := 0) (k := 7) (a := 0) (j := 6) _ _ (by omega), hv34_6]) (by show st61 0 7 = _; rw [est61, up2_same]; rfl) (fun hh => absurd hh (by omega)) (fun _ => by rw [hn9]; exact hv32_4 (by omega))⟩, mB.of ht hP⟩, hS.F ht⟩) hS.2.2 dX12_go_393
                        · have c8 : ¬ (u25 - (tkq B g p)) ≤ 7 := fun hh => c8 ((nI_leI (a := (u25 - (tkq B g p))) (b := 7) (by omega) (by omega)).mpr hh)
                          refine lv_iconst (v := 1) hx hb dX12_go_377 (by decide) ?_
                          refine lv_goto (tgt := 390) hx hb dX12_go_378 (by decide) ?_
                          refine va_put (D := (dC, dI)) (ci := 11) (v := .int 1) (ty := .int) (C := RX12) (T := TX12) (N := 47) hx hb hts ii_X12_go tyX12 tyX12_ok nmX12 hown hK hP (mD hN _ _ _ _) hS 0 rfl rfl 7 (by decide) (hts _ mm_X12_go_6) (fun _ hh => hh) rfl (by decide +kernel) rfl rfl (Nat.le_of_ble_eq_true rfl) dX12_go_390 (fun H locs hP _ hS => ?_)
                          have hP : va_P (dC, dI) vwCl (mw ar cy (up2 st23 0 7 1) sl24) H := hP
                          obtain ⟨st62, est62⟩ : ∃ y, y = up2 st23 0 7 1 := ⟨_, rfl⟩
                          have hG : MG [1, 2, 3, 6, 7, 8, 9, 10, 11, 12, 13, 14, 15, 20, 21, 22, 23] st st62 := by rw [est62]; exact hG.up (rz (by decide : mr 0 7 = 0)) (pn (by decide : pcl 0 7 = 5) (by decide))
                          rw [← est62] at hP
                          have hF : FM 1 st sl st62 sl24 := by rw [est62]; exact hF.up (by decide)
                          have he9 : tke B g p = u25 := hv30_2.symm.trans (rne_n (fun hh => by have h1 := hh.1; have h2 : (97 ≤ B u25 ∧ B u25 ≤ 122) ∨ (48 ≤ B u25 ∧ B u25 ≤ 57) := hh.2; omega))
                          have hn9 : tkn B g p = u25 - (tkq B g p) := by unfold tkn; rw [he9]
                          have hc9 := cnL_le (B := B) (q := (tkq B g p)) (u25 - (tkq B g p))
                          have hn8 := tkn_pos (B := B) (g := g) (p := p) (by omega) hB1 (by omega) hv15_0
                          have hl9 := cnL_first (B := B) (q := (tkq B g p)) (u25 - (tkq B g p))
                          exact W.vret hx hb hr (fun t ht hW => ⟨⟨(st62, sl24), rfl, ⟨hG, hF, TM.run hpg hB1 hv12_0 (by omega) hv15_0 1 (by rw [hn9]; omega) (by rw [he9]; exact (by show st62 0 5 = _; rw [est62, up2_ne (r := 0) (k := 7) (a := 0) (j := 5) _ _ (by omega), eu25])) (by show st62 0 6 = _; rw [est62, up2_ne (r := 0) (k := 7) (a := 0) (j := 6) _ _ (by omega), hv34_6]) (by show st62 0 7 = _; rw [est62, up2_same]; rfl) (fun hh => absurd hh (by omega)) (fun hh => absurd hh (by omega))⟩, mB.of ht hP⟩, hS.F ht⟩) hS.2.2 dX12_go_393
                · omega
            · refine va_calli (va_runS (As := [.int (nI n39)]) (rest := []) ⟨hx, hb, hml, hown, hts⟩ (f_isLetterN l dC dI ar cy _ hN st23 sl24 n39 (by omega) hG.1 ) (va_cwS 1 hts gX12_go_X12_isLetter rfl rfl rfl (by decide +kernel) ⟨Nat.le_of_ble_eq_true rfl, Nat.le_of_ble_eq_true rfl⟩) ⟨fun a U g mk q => ⟨q.1, mPre.blind q.2⟩, fun U hU hW => ⟨rfl, mPre.of hP hK hU hW⟩⟩ rfl rfl hl.1 rfl (lv_room (Nat.le_of_ble_eq_true rfl)) dX12_go_223 ⟨Nat.le_of_ble_eq_true rfl, Nat.le_of_ble_eq_true rfl⟩) hS (fun q _ h => MA.le hS.1 q h) (MA.le hS.1) (fun r63 x t H locs ht hvm hw hB9 _ _ hS => ?_)
              have hP := mB.at ht hB9
              clear hB9 ht hvm
              obtain ⟨rfl, hw⟩ := hw
              have hP : va_P (dC, dI) vwCl (mw ar cy st23 sl24) _ := hP
              rcases hw with ⟨rfl, hf64, hf65⟩ | ⟨rfl, hf66⟩
              · refine lv_if_ne (tgt := 243) hx hb dX12_go_226 (by decide) (fun _ => ?_) (fun cc => absurd cc (by decide))
                refine lv_aload_n hx hb dX12_go_243 rfl (lv_at hl 3 rfl) ?_
                refine va_get (D := (dC, dI)) (ci := 11) (v := .ref (ar 1)) (C := RX12) (T := TX12) (N := 47) hx hb hts ii_X12_go hown hK hP 0 rfl rfl 1 (by decide) (hts _ mm_X12_go_3) (fun _ hh => hh) rfl dX12_go_244 ?_
                refine lv_aload_n hx hb dX12_go_247 rfl (lv_at hl 3 rfl) ?_
                refine va_get (D := (dC, dI)) (ci := 11) (v := .int (st23 0 5)) (C := RX12) (T := TX12) (N := 47) hx hb hts ii_X12_go hown hK hP 0 rfl rfl 5 (by decide) (hts _ mm_X12_go_1) (fun _ hh => hh) rfl dX12_go_248 ?_
                refine zz_top (v := (nI u25)) (by show st23 0 5 = _; rw [eu25]) ?_
                refine va_iald hx hb hK hP 1 0 rfl rfl (i := (nI u25)) (vp_in_nI (by omega) (by decide)) dX12_go_251 ?_
                refine zz_top (v := nI (B u25)) (by rw [nI_clamp (by omega)]; exact ((MBt.fr hB hF).2.2.2.2 u25 (by omega)).1) ?_
                have hq67 := (hB.2.2.2.2 u25 (by omega)).2
                refine lv_istore (lv' := [(4, .int (nI (B u25))), (3, .int (nI k22)), (2, .int (nI k16)), (1, .int (nI (B (tkq B g p)))), (0, .ref (ar 0))]) hx hb dX12_go_252 hl (by decide) rfl (fun ls hl => ?_)
                refine zz_join (pcJ := 272) (fun stk H locs ls => ∃ k68 : Nat, k68 < 2 ∧ (k68 = 1 ↔ k22 = 1 ∧ ((97 ≤ B u25 ∧ B u25 ≤ 122) ↔ k16 = 1)) ∧ va_P (dC, dI) vwCl (mw ar cy st23 sl24) H ∧ va_S (MA ar s.heap.size) s.heap H locs ∧ lv_has ls 5 [(4, .int (nI (B u25))), (3, .int (nI k22)), (2, .int (nI k16)), (1, .int (nI (B (tkq B g p)))), (0, .ref (ar 0))] ∧ stk = [.int (nI k68)]) ?_ (fun kj69 => ?_)
                · rintro stk H locs ls ⟨k68, hv70_0, hv71_0, hP, hS, hl, rfl⟩
                  refine lv_istore_n (lv' := [(3, .int (nI k68)), (4, .int (nI (B u25))), (2, .int (nI k16)), (1, .int (nI (B (tkq B g p)))), (0, .ref (ar 0))]) hx hb dX12_go_272 rfl hl (by decide) rfl (fun ls hl => ?_)
                  refine lv_aload_n hx hb dX12_go_273 rfl (lv_at hl 4 rfl) ?_
                  refine va_get (D := (dC, dI)) (ci := 11) (v := .int (st23 0 5)) (C := RX12) (T := TX12) (N := 47) hx hb hts ii_X12_go hown hK hP 0 rfl rfl 5 (by decide) (hts _ mm_X12_go_1) (fun _ hh => hh) rfl dX12_go_274 ?_
                  refine zz_top (v := (nI u25)) (by show st23 0 5 = _; rw [eu25]) ?_
                  refine lv_aload_n hx hb dX12_go_277 rfl (lv_at hl 4 rfl) ?_
                  refine va_get (D := (dC, dI)) (ci := 11) (v := .int (st23 0 6)) (C := RX12) (T := TX12) (N := 47) hx hb hts ii_X12_go hown hK hP 0 rfl rfl 6 (by decide) (hts _ mm_X12_go_4) (fun _ hh => hh) rfl dX12_go_278 ?_
                  refine zz_top (v := (nI (tkq B g p))) (by show st23 0 6 = _; rw [hv34_6]) ?_
                  refine lv_isub hx hb dX12_go_281 ?_
                  refine zz_top (v := nI (u25 - (tkq B g p))) (nI_subN (a := u25) (b := (tkq B g p)) (by omega) (by omega)) ?_
                  refine lv_bipush (v := 7) hx hb dX12_go_282 (by decide) ?_
                  refine lv_icmp_ge (tgt := 307) hx hb dX12_go_284 (by decide) (fun c11 => ?_) (fun c11 => ?_)
                  · have c11 : 7 ≤ (u25 - (tkq B g p)) := (nI_leI (a := 7) (b := (u25 - (tkq B g p))) (by omega) (by omega)).mp c11
                    refine lv_aload_n hx hb dX12_go_307 rfl (lv_at hl 4 rfl) ?_
                    refine va_get (D := (dC, dI)) (ci := 11) (v := .int (st23 0 5)) (C := RX12) (T := TX12) (N := 47) hx hb hts ii_X12_go hown hK hP 0 rfl rfl 5 (by decide) (hts _ mm_X12_go_1) (fun _ hh => hh) rfl dX12_go_308 ?_
                    refine zz_top (v := (nI u25)) (by show st23 0 5 = _; rw [eu25]) ?_
                    refine lv_aload_n hx hb dX12_go_311 rfl (lv_at hl 4 rfl) ?_
                    refine va_get (D := (dC, dI)) (ci := 11) (v := .int (st23 0 6)) (C := RX12) (T := TX12) (N := 47) hx hb hts ii_X12_go hown hK hP 0 rfl rfl 6 (by decide) (hts _ mm_X12_go_4) (fun _ hh => hh) rfl dX12_go_312 ?_
                    refine zz_top (v := (nI (tkq B g p))) (by show st23 0 6 = _; rw [hv34_6]) ?_
                    refine lv_isub hx hb dX12_go_315 ?_
                    refine zz_top (v := nI (u25 - (tkq B g p))) (nI_subN (a := u25) (b := (tkq B g p)) (by omega) (by omega)) ?_
                    refine lv_iconst (v := 3) hx hb dX12_go_316 (by decide) ?_
                    refine lv_icmp_ge (tgt := 337) hx hb dX12_go_317 (by decide) (fun c12 => ?_) (fun c12 => ?_)
                    · have c12 : 3 ≤ (u25 - (tkq B g p)) := (nI_leI (a := 3) (b := (u25 - (tkq B g p))) (by omega) (by omega)).mp c12
                      refine lv_aload_n hx hb dX12_go_337 rfl (lv_at hl 4 rfl) ?_
                      refine lv_dup hx hb dX12_go_338 rfl ?_
                      refine va_get (D := (dC, dI)) (ci := 11) (v := .int (st23 0 5)) (C := RX12) (T := TX12) (N := 47) hx hb hts ii_X12_go hown hK hP 0 rfl rfl 5 (by decide) (hts _ mm_X12_go_1) (fun _ hh => hh) rfl dX12_go_339 ?_
                      refine zz_top (v := (nI u25)) (by show st23 0 5 = _; rw [eu25]) ?_
                      refine lv_iconst (v := 1) hx hb dX12_go_342 (by decide) ?_
                      refine lv_iadd hx hb dX12_go_343 ?_
                      refine zz_top (v := nI (u25 + 1)) (nI_add u25 1) ?_
                      refine va_put (D := (dC, dI)) (ci := 11) (v := .int (nI (u25 + 1))) (ty := .int) (C := RX12) (T := TX12) (N := 47) hx hb hts ii_X12_go tyX12 tyX12_ok nmX12 hown hK hP (mD hN _ _ _ _) hS 0 rfl rfl 5 (by decide) (hts _ mm_X12_go_1) (fun _ hh => hh) rfl (by decide +kernel) rfl rfl (Nat.le_of_ble_eq_true rfl) dX12_go_344 (fun H locs hP _ hS => ?_)
                      have hP : va_P (dC, dI) vwCl (mw ar cy (up2 st23 0 5 (nI (u25 + 1))) sl24) H := hP
                      obtain ⟨st72, est72⟩ : ∃ y, y = up2 st23 0 5 (nI (u25 + 1)) := ⟨_, rfl⟩
                      have hG : MG [1, 2, 3, 6, 7, 8, 9, 10, 11, 12, 13, 14, 15, 20, 21, 22, 23] st st72 := by rw [est72]; exact hG.up (rn (n := (u25 + 1)) (by decide : mr 0 5 = 941) (by omega)) (pn (by decide : pcl 0 5 = 4) (by decide))
                      rw [← est72] at hP
                      have hF : FM 1 st sl st72 sl24 := by rw [est72]; exact hF.up (by decide)
                      refine lv_goto (tgt := 215) hx hb dX12_go_347 (by decide) ?_
                      have hs9 := cnL_sy (B := B) (q := (tkq B g p)) (u := u25) (by omega) (show 97 ≤ B u25 ∧ B u25 ≤ 122 by omega)
                      exact ih36 (941 - (u25 + 1)) _ _ _ _ (by omega) ⟨k68, st72, sl24, (u25 + 1), rfl, by omega, by omega, by rw [est72, up2_same], by omega, by omega, (rne_y (p := u25) (m := 941) ⟨by omega, Or.inl (show 97 ≤ B u25 ∧ B u25 ≤ 122 by omega)⟩ (by omega)).symm.trans hv30_2, by rw [hs9]; omega, fun hh => absurd hh (by rw [hs9]; omega), fun hh => absurd hh (by rw [hs9]; omega), (by show st72 0 6 = _; rw [est72, up2_ne (r := 0) (k := 5) (a := 0) (j := 6) _ _ (by omega), hv34_6]), hF, hP, hG, hS, lv_sub hl [0, 2, 3, 4] rfl, rfl⟩
                    · have c12 : ¬ 3 ≤ (u25 - (tkq B g p)) := fun hh => c12 ((nI_leI (a := 3) (b := (u25 - (tkq B g p))) (by omega) (by omega)).mpr hh)
                      refine lv_aload_n hx hb dX12_go_320 rfl (lv_at hl 4 rfl) ?_
                      refine lv_bipush (v := 10) hx hb dX12_go_321 (by decide) ?_
                      refine lv_aload_n hx hb dX12_go_323 rfl (lv_at hl 4 rfl) ?_
                      refine va_get (D := (dC, dI)) (ci := 11) (v := .int (st23 0 8)) (C := RX12) (T := TX12) (N := 47) hx hb hts ii_X12_go hown hK hP 0 rfl rfl 8 (by decide) (hts _ mm_X12_go_9) (fun _ hh => hh) rfl dX12_go_324 ?_
                      refine lv_topi (fun z73 ez73 => ?_)
                      refine lv_imul hx hb dX12_go_327 ?_
                      refine lv_topi (fun z74 ez74 => ?_)
                      refine lv_iload hx hb dX12_go_328 (lv_at hl 1 rfl) ?_
                      refine lv_iadd hx hb dX12_go_330 ?_
                      refine lv_topi (fun z75 ez75 => ?_)
                      refine lv_bipush (v := 48) hx hb dX12_go_331 (by decide) ?_
                      refine lv_isub hx hb dX12_go_333 ?_
                      refine lv_topi (fun z76 ez76 => ?_)
                      refine va_put (D := (dC, dI)) (ci := 11) (v := .int z76) (ty := .int) (C := RX12) (T := TX12) (N := 47) hx hb hts ii_X12_go tyX12 tyX12_ok nmX12 hown hK hP (mD hN _ _ _ _) hS 0 rfl rfl 8 (by decide) (hts _ mm_X12_go_9) (fun _ hh => hh) rfl (by decide +kernel) rfl rfl (Nat.le_of_ble_eq_true rfl) dX12_go_334 (fun H locs hP _ hS => ?_)
                      have hP : va_P (dC, dI) vwCl (mw ar cy (up2 st23 0 8 z76) sl24) H := hP
                      obtain ⟨st77, est77⟩ : ∃ y, y = up2 st23 0 8 z76 := ⟨_, rfl⟩
                      have hG : MG [1, 2, 3, 6, 7, 8, 9, 10, 11, 12, 13, 14, 15, 20, 21, 22, 23] st st77 := by rw [est77]; exact hG.up (rz (by decide : mr 0 8 = 0)) (pn (by decide : pcl 0 8 = 0) (by decide))
                      rw [← est77] at hP
                      have hF : FM 1 st sl st77 sl24 := by rw [est77]; exact hF.up (by decide)
                      refine lv_aload_n hx hb dX12_go_337 rfl (lv_at hl 4 rfl) ?_
                      refine lv_dup hx hb dX12_go_338 rfl ?_
                      refine va_get (D := (dC, dI)) (ci := 11) (v := .int (st77 0 5)) (C := RX12) (T := TX12) (N := 47) hx hb hts ii_X12_go hown hK hP 0 rfl rfl 5 (by decide) (hts _ mm_X12_go_1) (fun _ hh => hh) rfl dX12_go_339 ?_
                      refine zz_top (v := (nI u25)) (by show st77 0 5 = _; rw [est77, up2_ne (r := 0) (k := 8) (a := 0) (j := 5) _ _ (by omega), eu25]) ?_
                      refine lv_iconst (v := 1) hx hb dX12_go_342 (by decide) ?_
                      refine lv_iadd hx hb dX12_go_343 ?_
                      refine zz_top (v := nI (u25 + 1)) (nI_add u25 1) ?_
                      refine va_put (D := (dC, dI)) (ci := 11) (v := .int (nI (u25 + 1))) (ty := .int) (C := RX12) (T := TX12) (N := 47) hx hb hts ii_X12_go tyX12 tyX12_ok nmX12 hown hK hP (mD hN _ _ _ _) hS 0 rfl rfl 5 (by decide) (hts _ mm_X12_go_1) (fun _ hh => hh) rfl (by decide +kernel) rfl rfl (Nat.le_of_ble_eq_true rfl) dX12_go_344 (fun H locs hP _ hS => ?_)
                      have hP : va_P (dC, dI) vwCl (mw ar cy (up2 st77 0 5 (nI (u25 + 1))) sl24) H := hP
                      obtain ⟨st78, est78⟩ : ∃ y, y = up2 st77 0 5 (nI (u25 + 1)) := ⟨_, rfl⟩
                      have hG : MG [1, 2, 3, 6, 7, 8, 9, 10, 11, 12, 13, 14, 15, 20, 21, 22, 23] st st78 := by rw [est78]; exact hG.up (rn (n := (u25 + 1)) (by decide : mr 0 5 = 941) (by omega)) (pn (by decide : pcl 0 5 = 4) (by decide))
                      rw [← est78] at hP
                      have hF : FM 1 st sl st78 sl24 := by rw [est78]; exact hF.up (by decide)
                      refine lv_goto (tgt := 215) hx hb dX12_go_347 (by decide) ?_
                      have hs9 := cnL_sy (B := B) (q := (tkq B g p)) (u := u25) (by omega) (show 97 ≤ B u25 ∧ B u25 ≤ 122 by omega)
                      exact ih36 (941 - (u25 + 1)) _ _ _ _ (by omega) ⟨k68, st78, sl24, (u25 + 1), rfl, by omega, by omega, by rw [est78, up2_same], by omega, by omega, (rne_y (p := u25) (m := 941) ⟨by omega, Or.inl (show 97 ≤ B u25 ∧ B u25 ≤ 122 by omega)⟩ (by omega)).symm.trans hv30_2, by rw [hs9]; omega, fun hh => absurd hh (by rw [hs9]; omega), fun hh => absurd hh (by rw [hs9]; omega), (by show st78 0 6 = _; rw [est78, up2_ne (r := 0) (k := 5) (a := 0) (j := 6) _ _ (by omega), est77, up2_ne (r := 0) (k := 8) (a := 0) (j := 6) _ _ (by omega), hv34_6]), hF, hP, hG, hS, lv_sub hl [0, 2, 3, 4] rfl, rfl⟩
                  · have c11 : ¬ 7 ≤ (u25 - (tkq B g p)) := fun hh => c11 ((nI_leI (a := 7) (b := (u25 - (tkq B g p))) (by omega) (by omega)).mpr hh)
                    refine lv_aload_n hx hb dX12_go_287 rfl (lv_at hl 4 rfl) ?_
                    refine lv_ldc2 (v := 27) hx hb hown (hts _ mm_X12_go_10) dX12_go_288 ?_
                    refine lv_aload_n hx hb dX12_go_291 rfl (lv_at hl 4 rfl) ?_
                    refine va_get (D := (dC, dI)) (ci := 11) (v := .long (sl24 0 12)) (C := RX12) (T := TX12) (N := 47) hx hb hts ii_X12_go hown hK hP 0 rfl rfl 12 (by decide) (hts _ mm_X12_go_8) (fun _ hh => hh) rfl dX12_go_292 ?_
                    refine lv_lmul hx hb dX12_go_295 ?_
                    refine lv_topl (fun z79 ez79 => ?_)
                    refine lv_iload hx hb dX12_go_296 (lv_at hl 1 rfl) ?_
                    refine lv_i2l hx hb dX12_go_298 rfl ?_
                    refine lv_topl (fun z80 ez80 => ?_)
                    refine lv_ladd hx hb dX12_go_299 ?_
                    refine lv_topl (fun z81 ez81 => ?_)
                    refine lv_ldc2 (v := 96) hx hb hown (hts _ mm_X12_go_11) dX12_go_300 ?_
                    refine lv_lsub hx hb dX12_go_303 ?_
                    refine lv_topl (fun z82 ez82 => ?_)
                    refine va_put (D := (dC, dI)) (ci := 11) (v := .long z82) (ty := .long) (C := RX12) (T := TX12) (N := 47) hx hb hts ii_X12_go tyX12 tyX12_ok nmX12 hown hK hP (mD hN _ _ _ _) hS 0 rfl rfl 12 (by decide) (hts _ mm_X12_go_8) (fun _ hh => hh) rfl (by decide +kernel) rfl rfl (Nat.le_of_ble_eq_true rfl) dX12_go_304 (fun H locs hP _ hS => ?_)
                    have hP : va_P (dC, dI) vwCl (mw ar cy st23 (upL sl24 0 12 z82)) H := hP
                    obtain ⟨sl83, esl83⟩ : ∃ y, y = upL sl24 0 12 z82 := ⟨_, rfl⟩
                    rw [← esl83] at hP
                    have hF : FM 1 st sl st23 sl83 := by rw [esl83]; exact hF.upL (by decide)
                    refine lv_aload_n hx hb dX12_go_307 rfl (lv_at hl 4 rfl) ?_
                    refine va_get (D := (dC, dI)) (ci := 11) (v := .int (st23 0 5)) (C := RX12) (T := TX12) (N := 47) hx hb hts ii_X12_go hown hK hP 0 rfl rfl 5 (by decide) (hts _ mm_X12_go_1) (fun _ hh => hh) rfl dX12_go_308 ?_
                    refine zz_top (v := (nI u25)) (by show st23 0 5 = _; rw [eu25]) ?_
                    refine lv_aload_n hx hb dX12_go_311 rfl (lv_at hl 4 rfl) ?_
                    refine va_get (D := (dC, dI)) (ci := 11) (v := .int (st23 0 6)) (C := RX12) (T := TX12) (N := 47) hx hb hts ii_X12_go hown hK hP 0 rfl rfl 6 (by decide) (hts _ mm_X12_go_4) (fun _ hh => hh) rfl dX12_go_312 ?_
                    refine zz_top (v := (nI (tkq B g p))) (by show st23 0 6 = _; rw [hv34_6]) ?_
                    refine lv_isub hx hb dX12_go_315 ?_
                    refine zz_top (v := nI (u25 - (tkq B g p))) (nI_subN (a := u25) (b := (tkq B g p)) (by omega) (by omega)) ?_
                    refine lv_iconst (v := 3) hx hb dX12_go_316 (by decide) ?_
                    refine lv_icmp_ge (tgt := 337) hx hb dX12_go_317 (by decide) (fun c13 => ?_) (fun c13 => ?_)
                    · have c13 : 3 ≤ (u25 - (tkq B g p)) := (nI_leI (a := 3) (b := (u25 - (tkq B g p))) (by omega) (by omega)).mp c13
                      refine lv_aload_n hx hb dX12_go_337 rfl (lv_at hl 4 rfl) ?_
                      refine lv_dup hx hb dX12_go_338 rfl ?_
                      refine va_get (D := (dC, dI)) (ci := 11) (v := .int (st23 0 5)) (C := RX12) (T := TX12) (N := 47) hx hb hts ii_X12_go hown hK hP 0 rfl rfl 5 (by decide) (hts _ mm_X12_go_1) (fun _ hh => hh) rfl dX12_go_339 ?_
                      refine zz_top (v := (nI u25)) (by show st23 0 5 = _; rw [eu25]) ?_
                      refine lv_iconst (v := 1) hx hb dX12_go_342 (by decide) ?_
                      refine lv_iadd hx hb dX12_go_343 ?_
                      refine zz_top (v := nI (u25 + 1)) (nI_add u25 1) ?_
                      refine va_put (D := (dC, dI)) (ci := 11) (v := .int (nI (u25 + 1))) (ty := .int) (C := RX12) (T := TX12) (N := 47) hx hb hts ii_X12_go tyX12 tyX12_ok nmX12 hown hK hP (mD hN _ _ _ _) hS 0 rfl rfl 5 (by decide) (hts _ mm_X12_go_1) (fun _ hh => hh) rfl (by decide +kernel) rfl rfl (Nat.le_of_ble_eq_true rfl) dX12_go_344 (fun H locs hP _ hS => ?_)
                      have hP : va_P (dC, dI) vwCl (mw ar cy (up2 st23 0 5 (nI (u25 + 1))) sl83) H := hP
                      obtain ⟨st84, est84⟩ : ∃ y, y = up2 st23 0 5 (nI (u25 + 1)) := ⟨_, rfl⟩
                      have hG : MG [1, 2, 3, 6, 7, 8, 9, 10, 11, 12, 13, 14, 15, 20, 21, 22, 23] st st84 := by rw [est84]; exact hG.up (rn (n := (u25 + 1)) (by decide : mr 0 5 = 941) (by omega)) (pn (by decide : pcl 0 5 = 4) (by decide))
                      rw [← est84] at hP
                      have hF : FM 1 st sl st84 sl83 := by rw [est84]; exact hF.up (by decide)
                      refine lv_goto (tgt := 215) hx hb dX12_go_347 (by decide) ?_
                      have hs9 := cnL_sy (B := B) (q := (tkq B g p)) (u := u25) (by omega) (show 97 ≤ B u25 ∧ B u25 ≤ 122 by omega)
                      exact ih36 (941 - (u25 + 1)) _ _ _ _ (by omega) ⟨k68, st84, sl83, (u25 + 1), rfl, by omega, by omega, by rw [est84, up2_same], by omega, by omega, (rne_y (p := u25) (m := 941) ⟨by omega, Or.inl (show 97 ≤ B u25 ∧ B u25 ≤ 122 by omega)⟩ (by omega)).symm.trans hv30_2, by rw [hs9]; omega, fun hh => by rw [hs9] at hh; rw [esl83, upL_same, ez82, ez81, ez80, ez79, hv32_4 (by omega), cd7_s (by omega)]; exact zz_w27 (by omega) (by omega), fun hh => absurd hh (by rw [hs9]; omega), (by show st84 0 6 = _; rw [est84, up2_ne (r := 0) (k := 5) (a := 0) (j := 6) _ _ (by omega), hv34_6]), hF, hP, hG, hS, lv_sub hl [0, 2, 3, 4] rfl, rfl⟩
                    · have c13 : ¬ 3 ≤ (u25 - (tkq B g p)) := fun hh => c13 ((nI_leI (a := 3) (b := (u25 - (tkq B g p))) (by omega) (by omega)).mpr hh)
                      refine lv_aload_n hx hb dX12_go_320 rfl (lv_at hl 4 rfl) ?_
                      refine lv_bipush (v := 10) hx hb dX12_go_321 (by decide) ?_
                      refine lv_aload_n hx hb dX12_go_323 rfl (lv_at hl 4 rfl) ?_
                      refine va_get (D := (dC, dI)) (ci := 11) (v := .int (st23 0 8)) (C := RX12) (T := TX12) (N := 47) hx hb hts ii_X12_go hown hK hP 0 rfl rfl 8 (by decide) (hts _ mm_X12_go_9) (fun _ hh => hh) rfl dX12_go_324 ?_
                      refine lv_topi (fun z85 ez85 => ?_)
                      refine lv_imul hx hb dX12_go_327 ?_
                      refine lv_topi (fun z86 ez86 => ?_)
                      refine lv_iload hx hb dX12_go_328 (lv_at hl 1 rfl) ?_
                      refine lv_iadd hx hb dX12_go_330 ?_
                      refine lv_topi (fun z87 ez87 => ?_)
                      refine lv_bipush (v := 48) hx hb dX12_go_331 (by decide) ?_
                      refine lv_isub hx hb dX12_go_333 ?_
                      refine lv_topi (fun z88 ez88 => ?_)
                      refine va_put (D := (dC, dI)) (ci := 11) (v := .int z88) (ty := .int) (C := RX12) (T := TX12) (N := 47) hx hb hts ii_X12_go tyX12 tyX12_ok nmX12 hown hK hP (mD hN _ _ _ _) hS 0 rfl rfl 8 (by decide) (hts _ mm_X12_go_9) (fun _ hh => hh) rfl (by decide +kernel) rfl rfl (Nat.le_of_ble_eq_true rfl) dX12_go_334 (fun H locs hP _ hS => ?_)
                      have hP : va_P (dC, dI) vwCl (mw ar cy (up2 st23 0 8 z88) sl83) H := hP
                      obtain ⟨st89, est89⟩ : ∃ y, y = up2 st23 0 8 z88 := ⟨_, rfl⟩
                      have hG : MG [1, 2, 3, 6, 7, 8, 9, 10, 11, 12, 13, 14, 15, 20, 21, 22, 23] st st89 := by rw [est89]; exact hG.up (rz (by decide : mr 0 8 = 0)) (pn (by decide : pcl 0 8 = 0) (by decide))
                      rw [← est89] at hP
                      have hF : FM 1 st sl st89 sl83 := by rw [est89]; exact hF.up (by decide)
                      refine lv_aload_n hx hb dX12_go_337 rfl (lv_at hl 4 rfl) ?_
                      refine lv_dup hx hb dX12_go_338 rfl ?_
                      refine va_get (D := (dC, dI)) (ci := 11) (v := .int (st89 0 5)) (C := RX12) (T := TX12) (N := 47) hx hb hts ii_X12_go hown hK hP 0 rfl rfl 5 (by decide) (hts _ mm_X12_go_1) (fun _ hh => hh) rfl dX12_go_339 ?_
                      refine zz_top (v := (nI u25)) (by show st89 0 5 = _; rw [est89, up2_ne (r := 0) (k := 8) (a := 0) (j := 5) _ _ (by omega), eu25]) ?_
                      refine lv_iconst (v := 1) hx hb dX12_go_342 (by decide) ?_
                      refine lv_iadd hx hb dX12_go_343 ?_
                      refine zz_top (v := nI (u25 + 1)) (nI_add u25 1) ?_
                      refine va_put (D := (dC, dI)) (ci := 11) (v := .int (nI (u25 + 1))) (ty := .int) (C := RX12) (T := TX12) (N := 47) hx hb hts ii_X12_go tyX12 tyX12_ok nmX12 hown hK hP (mD hN _ _ _ _) hS 0 rfl rfl 5 (by decide) (hts _ mm_X12_go_1) (fun _ hh => hh) rfl (by decide +kernel) rfl rfl (Nat.le_of_ble_eq_true rfl) dX12_go_344 (fun H locs hP _ hS => ?_)
                      have hP : va_P (dC, dI) vwCl (mw ar cy (up2 st89 0 5 (nI (u25 + 1))) sl83) H := hP
                      obtain ⟨st90, est90⟩ : ∃ y, y = up2 st89 0 5 (nI (u25 + 1)) := ⟨_, rfl⟩
                      have hG : MG [1, 2, 3, 6, 7, 8, 9, 10, 11, 12, 13, 14, 15, 20, 21, 22, 23] st st90 := by rw [est90]; exact hG.up (rn (n := (u25 + 1)) (by decide : mr 0 5 = 941) (by omega)) (pn (by decide : pcl 0 5 = 4) (by decide))
                      rw [← est90] at hP
                      have hF : FM 1 st sl st90 sl83 := by rw [est90]; exact hF.up (by decide)
                      refine lv_goto (tgt := 215) hx hb dX12_go_347 (by decide) ?_
                      have hs9 := cnL_sy (B := B) (q := (tkq B g p)) (u := u25) (by omega) (show 97 ≤ B u25 ∧ B u25 ≤ 122 by omega)
                      exact ih36 (941 - (u25 + 1)) _ _ _ _ (by omega) ⟨k68, st90, sl83, (u25 + 1), rfl, by omega, by omega, by rw [est90, up2_same], by omega, by omega, (rne_y (p := u25) (m := 941) ⟨by omega, Or.inl (show 97 ≤ B u25 ∧ B u25 ≤ 122 by omega)⟩ (by omega)).symm.trans hv30_2, by rw [hs9]; omega, fun hh => by rw [hs9] at hh; rw [esl83, upL_same, ez82, ez81, ez80, ez79, hv32_4 (by omega), cd7_s (by omega)]; exact zz_w27 (by omega) (by omega), fun hh => absurd hh (by rw [hs9]; omega), (by show st90 0 6 = _; rw [est90, up2_ne (r := 0) (k := 5) (a := 0) (j := 6) _ _ (by omega), est89, up2_ne (r := 0) (k := 8) (a := 0) (j := 6) _ _ (by omega), hv34_6]), hF, hP, hG, hS, lv_sub hl [0, 2, 3, 4] rfl, rfl⟩
                refine lv_iload_n hx hb dX12_go_254 rfl (lv_at hl 1 rfl) ?_
                refine lv_if_eq (tgt := 271) hx hb dX12_go_255 (by decide) (fun c14 => ?_) (fun c14 => ?_)
                · have c14 : k22 = 0 := (nI_eq (a := k22) (b := 0) (by omega) (by omega)).mp c14
                  refine lv_iconst (v := 0) hx hb dX12_go_271 (by decide) ?_
                  exact kj69 _ _ _ _ ⟨0, by omega, by omega, hP, hS, lv_sub hl [0, 1, 2, 3, 4] rfl, rfl⟩
                · have c14 : ¬ k22 = 0 := fun hh => c14 ((nI_eq (a := k22) (b := 0) (by omega) (by omega)).mpr hh)
                  refine lv_iload hx hb dX12_go_258 (lv_at hl 0 rfl) ?_
                  refine va_calli (va_runS (As := [.int (nI (B u25))]) (rest := []) ⟨hx, hb, hml, hown, hts⟩ (f_isLetterN l dC dI ar cy _ hN st23 sl24 (B u25) (by omega) hG.1 ) (va_cwS 1 hts gX12_go_X12_isLetter rfl rfl rfl (by decide +kernel) ⟨Nat.le_of_ble_eq_true rfl, Nat.le_of_ble_eq_true rfl⟩) ⟨fun a U g mk q => ⟨q.1, mPre.blind q.2⟩, fun U hU hW => ⟨rfl, mPre.of hP hK hU hW⟩⟩ rfl rfl hl.1 rfl (lv_room (Nat.le_of_ble_eq_true rfl)) dX12_go_260 ⟨Nat.le_of_ble_eq_true rfl, Nat.le_of_ble_eq_true rfl⟩) hS (fun q _ h => MA.le hS.1 q h) (MA.le hS.1) (fun r91 x t H locs ht hvm hw hB9 _ _ hS => ?_)
                  have hP := mB.at ht hB9
                  clear hB9 ht hvm
                  obtain ⟨rfl, hw⟩ := hw
                  have hP : va_P (dC, dI) vwCl (mw ar cy st23 sl24) _ := hP
                  rcases hw with ⟨rfl, hf92, hf93⟩ | ⟨rfl, hf94⟩
                  · refine lv_iload_n hx hb dX12_go_263 rfl (lv_at hl 2 rfl) ?_
                    refine lv_icmp_ne (tgt := 271) hx hb dX12_go_264 (by decide) (fun c15 => ?_) (fun c15 => ?_)
                    · have c15 : ¬ 1 = k16 := fun hh => c15 ((nI_eq (a := 1) (b := k16) (by omega) (by omega)).mpr hh)
                      refine lv_iconst (v := 0) hx hb dX12_go_271 (by decide) ?_
                      exact kj69 _ _ _ _ ⟨0, by omega, by omega, hP, hS, lv_sub hl [0, 1, 2, 3, 4] rfl, rfl⟩
                    · have c15 : 1 = k16 := (nI_eq (a := 1) (b := k16) (by omega) (by omega)).mp c15
                      refine lv_iconst (v := 1) hx hb dX12_go_267 (by decide) ?_
                      refine lv_goto (tgt := 272) hx hb dX12_go_268 (by decide) ?_
                      exact kj69 _ _ _ _ ⟨1, by omega, by omega, hP, hS, lv_sub hl [0, 1, 2, 3, 4] rfl, rfl⟩
                  · omega
              · refine lv_if_ne (tgt := 243) hx hb dX12_go_226 (by decide) (fun cc => absurd (by decide) cc) (fun _ => ?_)
                refine lv_aload_n hx hb dX12_go_229 rfl (lv_at hl 3 rfl) ?_
                refine lv_aload_n hx hb dX12_go_230 rfl (lv_at hl 3 rfl) ?_
                refine va_get (D := (dC, dI)) (ci := 11) (v := .int (st23 0 5)) (C := RX12) (T := TX12) (N := 47) hx hb hts ii_X12_go hown hK hP 0 rfl rfl 5 (by decide) (hts _ mm_X12_go_1) (fun _ hh => hh) rfl dX12_go_231 ?_
                refine zz_top (v := (nI u25)) (by show st23 0 5 = _; rw [eu25]) ?_
                refine va_calli (va_runV (As := [.int (nI u25)]) (rest := []) ⟨hx, hb, hml, hown, hts⟩ (f_tapeAt l dC dI ar cy _ hN st23 sl24 u25 B g m (by omega) hG.1 (MBt.fr hB hF)) (cwV 1 hts gX12_go_X12_tapeAt rfl rfl rfl (by decide +kernel) ⟨Nat.le_of_ble_eq_true rfl, Nat.le_of_ble_eq_true rfl⟩) ⟨fun a U g mk q => ⟨q.1, mPre.blind q.2⟩, va_recv hK hP (ci := 11) (q0 := 0) rfl rfl, fun U hU hW => ⟨rfl, mPre.of hP hK hU hW⟩⟩ rfl rfl hl.1 rfl (lv_room (Nat.le_of_ble_eq_true rfl)) dX12_go_234 ⟨Nat.le_of_ble_eq_true rfl, Nat.le_of_ble_eq_true rfl⟩) hS (fun q _ h => MA.le hS.1 q h) (MA.le hS.1) (fun r95 x t H locs ht hvm hw hB9 _ _ hS => ?_)
                have hP := mB.at ht hB9
                clear hB9 ht hvm
                obtain ⟨rfl, hw⟩ := hw
                have hP : va_P (dC, dI) vwCl (mw ar cy st23 sl24) _ := hP
                rcases hw with ⟨rfl, hf96⟩ | ⟨n97, rfl, hf98, hf99, hf100⟩
                · omega
                · refine va_calli (va_runS (As := [.int (nI n97)]) (rest := []) ⟨hx, hb, hml, hown, hts⟩ (f_isDigitN l dC dI ar cy _ hN st23 sl24 n97 (by omega) hG.1 ) (va_cwS 1 hts gX12_go_X12_isDigit rfl rfl rfl (by decide +kernel) ⟨Nat.le_of_ble_eq_true rfl, Nat.le_of_ble_eq_true rfl⟩) ⟨fun a U g mk q => ⟨q.1, mPre.blind q.2⟩, fun U hU hW => ⟨rfl, mPre.of hP hK hU hW⟩⟩ rfl rfl hl.1 rfl (lv_room (Nat.le_of_ble_eq_true rfl)) dX12_go_237 ⟨Nat.le_of_ble_eq_true rfl, Nat.le_of_ble_eq_true rfl⟩) hS (fun q _ h => MA.le hS.1 q h) (MA.le hS.1) (fun r101 x t H locs ht hvm hw hB9 _ _ hS => ?_)
                  have hP := mB.at ht hB9
                  clear hB9 ht hvm
                  obtain ⟨rfl, hw⟩ := hw
                  have hP : va_P (dC, dI) vwCl (mw ar cy st23 sl24) _ := hP
                  rcases hw with ⟨rfl, hf102, hf103⟩ | ⟨rfl, hf104⟩
                  · refine lv_if_eq (tgt := 350) hx hb dX12_go_240 (by decide) (fun cc => absurd cc (by decide)) (fun _ => ?_)
                    refine lv_aload_n hx hb dX12_go_243 rfl (lv_at hl 3 rfl) ?_
                    refine va_get (D := (dC, dI)) (ci := 11) (v := .ref (ar 1)) (C := RX12) (T := TX12) (N := 47) hx hb hts ii_X12_go hown hK hP 0 rfl rfl 1 (by decide) (hts _ mm_X12_go_3) (fun _ hh => hh) rfl dX12_go_244 ?_
                    refine lv_aload_n hx hb dX12_go_247 rfl (lv_at hl 3 rfl) ?_
                    refine va_get (D := (dC, dI)) (ci := 11) (v := .int (st23 0 5)) (C := RX12) (T := TX12) (N := 47) hx hb hts ii_X12_go hown hK hP 0 rfl rfl 5 (by decide) (hts _ mm_X12_go_1) (fun _ hh => hh) rfl dX12_go_248 ?_
                    refine zz_top (v := (nI u25)) (by show st23 0 5 = _; rw [eu25]) ?_
                    refine va_iald hx hb hK hP 1 0 rfl rfl (i := (nI u25)) (vp_in_nI (by omega) (by decide)) dX12_go_251 ?_
                    refine zz_top (v := nI (B u25)) (by rw [nI_clamp (by omega)]; exact ((MBt.fr hB hF).2.2.2.2 u25 (by omega)).1) ?_
                    have hq105 := (hB.2.2.2.2 u25 (by omega)).2
                    refine lv_istore (lv' := [(4, .int (nI (B u25))), (3, .int (nI k22)), (2, .int (nI k16)), (1, .int (nI (B (tkq B g p)))), (0, .ref (ar 0))]) hx hb dX12_go_252 hl (by decide) rfl (fun ls hl => ?_)
                    refine zz_join (pcJ := 272) (fun stk H locs ls => ∃ k106 : Nat, k106 < 2 ∧ (k106 = 1 ↔ k22 = 1 ∧ ((97 ≤ B u25 ∧ B u25 ≤ 122) ↔ k16 = 1)) ∧ va_P (dC, dI) vwCl (mw ar cy st23 sl24) H ∧ va_S (MA ar s.heap.size) s.heap H locs ∧ lv_has ls 5 [(4, .int (nI (B u25))), (3, .int (nI k22)), (2, .int (nI k16)), (1, .int (nI (B (tkq B g p)))), (0, .ref (ar 0))] ∧ stk = [.int (nI k106)]) ?_ (fun kj107 => ?_)
                    · rintro stk H locs ls ⟨k106, hv108_0, hv109_0, hP, hS, hl, rfl⟩
                      refine lv_istore_n (lv' := [(3, .int (nI k106)), (4, .int (nI (B u25))), (2, .int (nI k16)), (1, .int (nI (B (tkq B g p)))), (0, .ref (ar 0))]) hx hb dX12_go_272 rfl hl (by decide) rfl (fun ls hl => ?_)
                      refine lv_aload_n hx hb dX12_go_273 rfl (lv_at hl 4 rfl) ?_
                      refine va_get (D := (dC, dI)) (ci := 11) (v := .int (st23 0 5)) (C := RX12) (T := TX12) (N := 47) hx hb hts ii_X12_go hown hK hP 0 rfl rfl 5 (by decide) (hts _ mm_X12_go_1) (fun _ hh => hh) rfl dX12_go_274 ?_
                      refine zz_top (v := (nI u25)) (by show st23 0 5 = _; rw [eu25]) ?_
                      refine lv_aload_n hx hb dX12_go_277 rfl (lv_at hl 4 rfl) ?_
                      refine va_get (D := (dC, dI)) (ci := 11) (v := .int (st23 0 6)) (C := RX12) (T := TX12) (N := 47) hx hb hts ii_X12_go hown hK hP 0 rfl rfl 6 (by decide) (hts _ mm_X12_go_4) (fun _ hh => hh) rfl dX12_go_278 ?_
                      refine zz_top (v := (nI (tkq B g p))) (by show st23 0 6 = _; rw [hv34_6]) ?_
                      refine lv_isub hx hb dX12_go_281 ?_
                      refine zz_top (v := nI (u25 - (tkq B g p))) (nI_subN (a := u25) (b := (tkq B g p)) (by omega) (by omega)) ?_
                      refine lv_bipush (v := 7) hx hb dX12_go_282 (by decide) ?_
                      refine lv_icmp_ge (tgt := 307) hx hb dX12_go_284 (by decide) (fun c18 => ?_) (fun c18 => ?_)
                      · have c18 : 7 ≤ (u25 - (tkq B g p)) := (nI_leI (a := 7) (b := (u25 - (tkq B g p))) (by omega) (by omega)).mp c18
                        refine lv_aload_n hx hb dX12_go_307 rfl (lv_at hl 4 rfl) ?_
                        refine va_get (D := (dC, dI)) (ci := 11) (v := .int (st23 0 5)) (C := RX12) (T := TX12) (N := 47) hx hb hts ii_X12_go hown hK hP 0 rfl rfl 5 (by decide) (hts _ mm_X12_go_1) (fun _ hh => hh) rfl dX12_go_308 ?_
                        refine zz_top (v := (nI u25)) (by show st23 0 5 = _; rw [eu25]) ?_
                        refine lv_aload_n hx hb dX12_go_311 rfl (lv_at hl 4 rfl) ?_
                        refine va_get (D := (dC, dI)) (ci := 11) (v := .int (st23 0 6)) (C := RX12) (T := TX12) (N := 47) hx hb hts ii_X12_go hown hK hP 0 rfl rfl 6 (by decide) (hts _ mm_X12_go_4) (fun _ hh => hh) rfl dX12_go_312 ?_
                        refine zz_top (v := (nI (tkq B g p))) (by show st23 0 6 = _; rw [hv34_6]) ?_
                        refine lv_isub hx hb dX12_go_315 ?_
                        refine zz_top (v := nI (u25 - (tkq B g p))) (nI_subN (a := u25) (b := (tkq B g p)) (by omega) (by omega)) ?_
                        refine lv_iconst (v := 3) hx hb dX12_go_316 (by decide) ?_
                        refine lv_icmp_ge (tgt := 337) hx hb dX12_go_317 (by decide) (fun c19 => ?_) (fun c19 => ?_)
                        · have c19 : 3 ≤ (u25 - (tkq B g p)) := (nI_leI (a := 3) (b := (u25 - (tkq B g p))) (by omega) (by omega)).mp c19
                          refine lv_aload_n hx hb dX12_go_337 rfl (lv_at hl 4 rfl) ?_
                          refine lv_dup hx hb dX12_go_338 rfl ?_
                          refine va_get (D := (dC, dI)) (ci := 11) (v := .int (st23 0 5)) (C := RX12) (T := TX12) (N := 47) hx hb hts ii_X12_go hown hK hP 0 rfl rfl 5 (by decide) (hts _ mm_X12_go_1) (fun _ hh => hh) rfl dX12_go_339 ?_
                          refine zz_top (v := (nI u25)) (by show st23 0 5 = _; rw [eu25]) ?_
                          refine lv_iconst (v := 1) hx hb dX12_go_342 (by decide) ?_
                          refine lv_iadd hx hb dX12_go_343 ?_
                          refine zz_top (v := nI (u25 + 1)) (nI_add u25 1) ?_
                          refine va_put (D := (dC, dI)) (ci := 11) (v := .int (nI (u25 + 1))) (ty := .int) (C := RX12) (T := TX12) (N := 47) hx hb hts ii_X12_go tyX12 tyX12_ok nmX12 hown hK hP (mD hN _ _ _ _) hS 0 rfl rfl 5 (by decide) (hts _ mm_X12_go_1) (fun _ hh => hh) rfl (by decide +kernel) rfl rfl (Nat.le_of_ble_eq_true rfl) dX12_go_344 (fun H locs hP _ hS => ?_)
                          have hP : va_P (dC, dI) vwCl (mw ar cy (up2 st23 0 5 (nI (u25 + 1))) sl24) H := hP
                          obtain ⟨st110, est110⟩ : ∃ y, y = up2 st23 0 5 (nI (u25 + 1)) := ⟨_, rfl⟩
                          have hG : MG [1, 2, 3, 6, 7, 8, 9, 10, 11, 12, 13, 14, 15, 20, 21, 22, 23] st st110 := by rw [est110]; exact hG.up (rn (n := (u25 + 1)) (by decide : mr 0 5 = 941) (by omega)) (pn (by decide : pcl 0 5 = 4) (by decide))
                          rw [← est110] at hP
                          have hF : FM 1 st sl st110 sl24 := by rw [est110]; exact hF.up (by decide)
                          refine lv_goto (tgt := 215) hx hb dX12_go_347 (by decide) ?_
                          have hs9 := cnL_sn (B := B) (q := (tkq B g p)) (u := u25) (by omega) (fun hh => by have h1 : 97 ≤ B u25 ∧ B u25 ≤ 122 := hh; omega)
                          exact ih36 (941 - (u25 + 1)) _ _ _ _ (by omega) ⟨k106, st110, sl24, (u25 + 1), rfl, by omega, by omega, by rw [est110, up2_same], by omega, by omega, (rne_y (p := u25) (m := 941) ⟨by omega, Or.inr (show 48 ≤ B u25 ∧ B u25 ≤ 57 by omega)⟩ (by omega)).symm.trans hv30_2, by rw [hs9]; omega, fun hh => absurd hh (by rw [hs9]; omega), fun hh => absurd hh (by rw [hs9]; omega), (by show st110 0 6 = _; rw [est110, up2_ne (r := 0) (k := 5) (a := 0) (j := 6) _ _ (by omega), hv34_6]), hF, hP, hG, hS, lv_sub hl [0, 2, 3, 4] rfl, rfl⟩
                        · have c19 : ¬ 3 ≤ (u25 - (tkq B g p)) := fun hh => c19 ((nI_leI (a := 3) (b := (u25 - (tkq B g p))) (by omega) (by omega)).mpr hh)
                          refine lv_aload_n hx hb dX12_go_320 rfl (lv_at hl 4 rfl) ?_
                          refine lv_bipush (v := 10) hx hb dX12_go_321 (by decide) ?_
                          refine lv_aload_n hx hb dX12_go_323 rfl (lv_at hl 4 rfl) ?_
                          refine va_get (D := (dC, dI)) (ci := 11) (v := .int (st23 0 8)) (C := RX12) (T := TX12) (N := 47) hx hb hts ii_X12_go hown hK hP 0 rfl rfl 8 (by decide) (hts _ mm_X12_go_9) (fun _ hh => hh) rfl dX12_go_324 ?_
                          refine lv_topi (fun z111 ez111 => ?_)
                          refine lv_imul hx hb dX12_go_327 ?_
                          refine lv_topi (fun z112 ez112 => ?_)
                          refine lv_iload hx hb dX12_go_328 (lv_at hl 1 rfl) ?_
                          refine lv_iadd hx hb dX12_go_330 ?_
                          refine lv_topi (fun z113 ez113 => ?_)
                          refine lv_bipush (v := 48) hx hb dX12_go_331 (by decide) ?_
                          refine lv_isub hx hb dX12_go_333 ?_
                          refine lv_topi (fun z114 ez114 => ?_)
                          refine va_put (D := (dC, dI)) (ci := 11) (v := .int z114) (ty := .int) (C := RX12) (T := TX12) (N := 47) hx hb hts ii_X12_go tyX12 tyX12_ok nmX12 hown hK hP (mD hN _ _ _ _) hS 0 rfl rfl 8 (by decide) (hts _ mm_X12_go_9) (fun _ hh => hh) rfl (by decide +kernel) rfl rfl (Nat.le_of_ble_eq_true rfl) dX12_go_334 (fun H locs hP _ hS => ?_)
                          have hP : va_P (dC, dI) vwCl (mw ar cy (up2 st23 0 8 z114) sl24) H := hP
                          obtain ⟨st115, est115⟩ : ∃ y, y = up2 st23 0 8 z114 := ⟨_, rfl⟩
                          have hG : MG [1, 2, 3, 6, 7, 8, 9, 10, 11, 12, 13, 14, 15, 20, 21, 22, 23] st st115 := by rw [est115]; exact hG.up (rz (by decide : mr 0 8 = 0)) (pn (by decide : pcl 0 8 = 0) (by decide))
                          rw [← est115] at hP
                          have hF : FM 1 st sl st115 sl24 := by rw [est115]; exact hF.up (by decide)
                          refine lv_aload_n hx hb dX12_go_337 rfl (lv_at hl 4 rfl) ?_
                          refine lv_dup hx hb dX12_go_338 rfl ?_
                          refine va_get (D := (dC, dI)) (ci := 11) (v := .int (st115 0 5)) (C := RX12) (T := TX12) (N := 47) hx hb hts ii_X12_go hown hK hP 0 rfl rfl 5 (by decide) (hts _ mm_X12_go_1) (fun _ hh => hh) rfl dX12_go_339 ?_
                          refine zz_top (v := (nI u25)) (by show st115 0 5 = _; rw [est115, up2_ne (r := 0) (k := 8) (a := 0) (j := 5) _ _ (by omega), eu25]) ?_
                          refine lv_iconst (v := 1) hx hb dX12_go_342 (by decide) ?_
                          refine lv_iadd hx hb dX12_go_343 ?_
                          refine zz_top (v := nI (u25 + 1)) (nI_add u25 1) ?_
                          refine va_put (D := (dC, dI)) (ci := 11) (v := .int (nI (u25 + 1))) (ty := .int) (C := RX12) (T := TX12) (N := 47) hx hb hts ii_X12_go tyX12 tyX12_ok nmX12 hown hK hP (mD hN _ _ _ _) hS 0 rfl rfl 5 (by decide) (hts _ mm_X12_go_1) (fun _ hh => hh) rfl (by decide +kernel) rfl rfl (Nat.le_of_ble_eq_true rfl) dX12_go_344 (fun H locs hP _ hS => ?_)
                          have hP : va_P (dC, dI) vwCl (mw ar cy (up2 st115 0 5 (nI (u25 + 1))) sl24) H := hP
                          obtain ⟨st116, est116⟩ : ∃ y, y = up2 st115 0 5 (nI (u25 + 1)) := ⟨_, rfl⟩
                          have hG : MG [1, 2, 3, 6, 7, 8, 9, 10, 11, 12, 13, 14, 15, 20, 21, 22, 23] st st116 := by rw [est116]; exact hG.up (rn (n := (u25 + 1)) (by decide : mr 0 5 = 941) (by omega)) (pn (by decide : pcl 0 5 = 4) (by decide))
                          rw [← est116] at hP
                          have hF : FM 1 st sl st116 sl24 := by rw [est116]; exact hF.up (by decide)
                          refine lv_goto (tgt := 215) hx hb dX12_go_347 (by decide) ?_
                          have hs9 := cnL_sn (B := B) (q := (tkq B g p)) (u := u25) (by omega) (fun hh => by have h1 : 97 ≤ B u25 ∧ B u25 ≤ 122 := hh; omega)
                          have hb9 := nmb_b (B := B) (q := (tkq B g p)) (u25 - (tkq B g p)) (fun j hj => (hB.2.2.2.2 _ (by omega)).2)
                          exact ih36 (941 - (u25 + 1)) _ _ _ _ (by omega) ⟨k106, st116, sl24, (u25 + 1), rfl, by omega, by omega, by rw [est116, up2_same], by omega, by omega, (rne_y (p := u25) (m := 941) ⟨by omega, Or.inr (show 48 ≤ B u25 ∧ B u25 ≤ 57 by omega)⟩ (by omega)).symm.trans hv30_2, by rw [hs9]; omega, fun hh => absurd hh (by rw [hs9]; omega), fun hh => by have h2 : 10 ^ (u25 - (tkq B g p)) ≤ 10 ^ 2 := Nat.pow_le_pow_right (by decide) (by omega); rw [hs9] at hh; show st116 0 8 = _; rw [est116, up2_ne (r := 0) (k := 5) (a := 0) (j := 8) _ _ (by omega), est115, up2_same, ez114, ez113, ez112, ez111, hv33_5 (by omega), nmb_s (by omega)]; exact zz_d10 (by omega) (by omega), (by show st116 0 6 = _; rw [est116, up2_ne (r := 0) (k := 5) (a := 0) (j := 6) _ _ (by omega), est115, up2_ne (r := 0) (k := 8) (a := 0) (j := 6) _ _ (by omega), hv34_6]), hF, hP, hG, hS, lv_sub hl [0, 2, 3, 4] rfl, rfl⟩
                      · have c18 : ¬ 7 ≤ (u25 - (tkq B g p)) := fun hh => c18 ((nI_leI (a := 7) (b := (u25 - (tkq B g p))) (by omega) (by omega)).mpr hh)
                        refine lv_aload_n hx hb dX12_go_287 rfl (lv_at hl 4 rfl) ?_
                        refine lv_ldc2 (v := 27) hx hb hown (hts _ mm_X12_go_10) dX12_go_288 ?_
                        refine lv_aload_n hx hb dX12_go_291 rfl (lv_at hl 4 rfl) ?_
                        refine va_get (D := (dC, dI)) (ci := 11) (v := .long (sl24 0 12)) (C := RX12) (T := TX12) (N := 47) hx hb hts ii_X12_go hown hK hP 0 rfl rfl 12 (by decide) (hts _ mm_X12_go_8) (fun _ hh => hh) rfl dX12_go_292 ?_
                        refine lv_lmul hx hb dX12_go_295 ?_
                        refine lv_topl (fun z117 ez117 => ?_)
                        refine lv_iload hx hb dX12_go_296 (lv_at hl 1 rfl) ?_
                        refine lv_i2l hx hb dX12_go_298 rfl ?_
                        refine lv_topl (fun z118 ez118 => ?_)
                        refine lv_ladd hx hb dX12_go_299 ?_
                        refine lv_topl (fun z119 ez119 => ?_)
                        refine lv_ldc2 (v := 96) hx hb hown (hts _ mm_X12_go_11) dX12_go_300 ?_
                        refine lv_lsub hx hb dX12_go_303 ?_
                        refine lv_topl (fun z120 ez120 => ?_)
                        refine va_put (D := (dC, dI)) (ci := 11) (v := .long z120) (ty := .long) (C := RX12) (T := TX12) (N := 47) hx hb hts ii_X12_go tyX12 tyX12_ok nmX12 hown hK hP (mD hN _ _ _ _) hS 0 rfl rfl 12 (by decide) (hts _ mm_X12_go_8) (fun _ hh => hh) rfl (by decide +kernel) rfl rfl (Nat.le_of_ble_eq_true rfl) dX12_go_304 (fun H locs hP _ hS => ?_)
                        have hP : va_P (dC, dI) vwCl (mw ar cy st23 (upL sl24 0 12 z120)) H := hP
                        obtain ⟨sl121, esl121⟩ : ∃ y, y = upL sl24 0 12 z120 := ⟨_, rfl⟩
                        rw [← esl121] at hP
                        have hF : FM 1 st sl st23 sl121 := by rw [esl121]; exact hF.upL (by decide)
                        refine lv_aload_n hx hb dX12_go_307 rfl (lv_at hl 4 rfl) ?_
                        refine va_get (D := (dC, dI)) (ci := 11) (v := .int (st23 0 5)) (C := RX12) (T := TX12) (N := 47) hx hb hts ii_X12_go hown hK hP 0 rfl rfl 5 (by decide) (hts _ mm_X12_go_1) (fun _ hh => hh) rfl dX12_go_308 ?_
                        refine zz_top (v := (nI u25)) (by show st23 0 5 = _; rw [eu25]) ?_
                        refine lv_aload_n hx hb dX12_go_311 rfl (lv_at hl 4 rfl) ?_
                        refine va_get (D := (dC, dI)) (ci := 11) (v := .int (st23 0 6)) (C := RX12) (T := TX12) (N := 47) hx hb hts ii_X12_go hown hK hP 0 rfl rfl 6 (by decide) (hts _ mm_X12_go_4) (fun _ hh => hh) rfl dX12_go_312 ?_
                        refine zz_top (v := (nI (tkq B g p))) (by show st23 0 6 = _; rw [hv34_6]) ?_
                        refine lv_isub hx hb dX12_go_315 ?_
                        refine zz_top (v := nI (u25 - (tkq B g p))) (nI_subN (a := u25) (b := (tkq B g p)) (by omega) (by omega)) ?_
                        refine lv_iconst (v := 3) hx hb dX12_go_316 (by decide) ?_
                        refine lv_icmp_ge (tgt := 337) hx hb dX12_go_317 (by decide) (fun c20 => ?_) (fun c20 => ?_)
                        · have c20 : 3 ≤ (u25 - (tkq B g p)) := (nI_leI (a := 3) (b := (u25 - (tkq B g p))) (by omega) (by omega)).mp c20
                          refine lv_aload_n hx hb dX12_go_337 rfl (lv_at hl 4 rfl) ?_
                          refine lv_dup hx hb dX12_go_338 rfl ?_
                          refine va_get (D := (dC, dI)) (ci := 11) (v := .int (st23 0 5)) (C := RX12) (T := TX12) (N := 47) hx hb hts ii_X12_go hown hK hP 0 rfl rfl 5 (by decide) (hts _ mm_X12_go_1) (fun _ hh => hh) rfl dX12_go_339 ?_
                          refine zz_top (v := (nI u25)) (by show st23 0 5 = _; rw [eu25]) ?_
                          refine lv_iconst (v := 1) hx hb dX12_go_342 (by decide) ?_
                          refine lv_iadd hx hb dX12_go_343 ?_
                          refine zz_top (v := nI (u25 + 1)) (nI_add u25 1) ?_
                          refine va_put (D := (dC, dI)) (ci := 11) (v := .int (nI (u25 + 1))) (ty := .int) (C := RX12) (T := TX12) (N := 47) hx hb hts ii_X12_go tyX12 tyX12_ok nmX12 hown hK hP (mD hN _ _ _ _) hS 0 rfl rfl 5 (by decide) (hts _ mm_X12_go_1) (fun _ hh => hh) rfl (by decide +kernel) rfl rfl (Nat.le_of_ble_eq_true rfl) dX12_go_344 (fun H locs hP _ hS => ?_)
                          have hP : va_P (dC, dI) vwCl (mw ar cy (up2 st23 0 5 (nI (u25 + 1))) sl121) H := hP
                          obtain ⟨st122, est122⟩ : ∃ y, y = up2 st23 0 5 (nI (u25 + 1)) := ⟨_, rfl⟩
                          have hG : MG [1, 2, 3, 6, 7, 8, 9, 10, 11, 12, 13, 14, 15, 20, 21, 22, 23] st st122 := by rw [est122]; exact hG.up (rn (n := (u25 + 1)) (by decide : mr 0 5 = 941) (by omega)) (pn (by decide : pcl 0 5 = 4) (by decide))
                          rw [← est122] at hP
                          have hF : FM 1 st sl st122 sl121 := by rw [est122]; exact hF.up (by decide)
                          refine lv_goto (tgt := 215) hx hb dX12_go_347 (by decide) ?_
                          have hs9 := cnL_sn (B := B) (q := (tkq B g p)) (u := u25) (by omega) (fun hh => by have h1 : 97 ≤ B u25 ∧ B u25 ≤ 122 := hh; omega)
                          exact ih36 (941 - (u25 + 1)) _ _ _ _ (by omega) ⟨k106, st122, sl121, (u25 + 1), rfl, by omega, by omega, by rw [est122, up2_same], by omega, by omega, (rne_y (p := u25) (m := 941) ⟨by omega, Or.inr (show 48 ≤ B u25 ∧ B u25 ≤ 57 by omega)⟩ (by omega)).symm.trans hv30_2, by rw [hs9]; omega, fun hh => absurd hh (by rw [hs9]; omega), fun hh => absurd hh (by rw [hs9]; omega), (by show st122 0 6 = _; rw [est122, up2_ne (r := 0) (k := 5) (a := 0) (j := 6) _ _ (by omega), hv34_6]), hF, hP, hG, hS, lv_sub hl [0, 2, 3, 4] rfl, rfl⟩
                        · have c20 : ¬ 3 ≤ (u25 - (tkq B g p)) := fun hh => c20 ((nI_leI (a := 3) (b := (u25 - (tkq B g p))) (by omega) (by omega)).mpr hh)
                          refine lv_aload_n hx hb dX12_go_320 rfl (lv_at hl 4 rfl) ?_
                          refine lv_bipush (v := 10) hx hb dX12_go_321 (by decide) ?_
                          refine lv_aload_n hx hb dX12_go_323 rfl (lv_at hl 4 rfl) ?_
                          refine va_get (D := (dC, dI)) (ci := 11) (v := .int (st23 0 8)) (C := RX12) (T := TX12) (N := 47) hx hb hts ii_X12_go hown hK hP 0 rfl rfl 8 (by decide) (hts _ mm_X12_go_9) (fun _ hh => hh) rfl dX12_go_324 ?_
                          refine lv_topi (fun z123 ez123 => ?_)
                          refine lv_imul hx hb dX12_go_327 ?_
                          refine lv_topi (fun z124 ez124 => ?_)
                          refine lv_iload hx hb dX12_go_328 (lv_at hl 1 rfl) ?_
                          refine lv_iadd hx hb dX12_go_330 ?_
                          refine lv_topi (fun z125 ez125 => ?_)
                          refine lv_bipush (v := 48) hx hb dX12_go_331 (by decide) ?_
                          refine lv_isub hx hb dX12_go_333 ?_
                          refine lv_topi (fun z126 ez126 => ?_)
                          refine va_put (D := (dC, dI)) (ci := 11) (v := .int z126) (ty := .int) (C := RX12) (T := TX12) (N := 47) hx hb hts ii_X12_go tyX12 tyX12_ok nmX12 hown hK hP (mD hN _ _ _ _) hS 0 rfl rfl 8 (by decide) (hts _ mm_X12_go_9) (fun _ hh => hh) rfl (by decide +kernel) rfl rfl (Nat.le_of_ble_eq_true rfl) dX12_go_334 (fun H locs hP _ hS => ?_)
                          have hP : va_P (dC, dI) vwCl (mw ar cy (up2 st23 0 8 z126) sl121) H := hP
                          obtain ⟨st127, est127⟩ : ∃ y, y = up2 st23 0 8 z126 := ⟨_, rfl⟩
                          have hG : MG [1, 2, 3, 6, 7, 8, 9, 10, 11, 12, 13, 14, 15, 20, 21, 22, 23] st st127 := by rw [est127]; exact hG.up (rz (by decide : mr 0 8 = 0)) (pn (by decide : pcl 0 8 = 0) (by decide))
                          rw [← est127] at hP
                          have hF : FM 1 st sl st127 sl121 := by rw [est127]; exact hF.up (by decide)
                          refine lv_aload_n hx hb dX12_go_337 rfl (lv_at hl 4 rfl) ?_
                          refine lv_dup hx hb dX12_go_338 rfl ?_
                          refine va_get (D := (dC, dI)) (ci := 11) (v := .int (st127 0 5)) (C := RX12) (T := TX12) (N := 47) hx hb hts ii_X12_go hown hK hP 0 rfl rfl 5 (by decide) (hts _ mm_X12_go_1) (fun _ hh => hh) rfl dX12_go_339 ?_
                          refine zz_top (v := (nI u25)) (by show st127 0 5 = _; rw [est127, up2_ne (r := 0) (k := 8) (a := 0) (j := 5) _ _ (by omega), eu25]) ?_
                          refine lv_iconst (v := 1) hx hb dX12_go_342 (by decide) ?_
                          refine lv_iadd hx hb dX12_go_343 ?_
                          refine zz_top (v := nI (u25 + 1)) (nI_add u25 1) ?_
                          refine va_put (D := (dC, dI)) (ci := 11) (v := .int (nI (u25 + 1))) (ty := .int) (C := RX12) (T := TX12) (N := 47) hx hb hts ii_X12_go tyX12 tyX12_ok nmX12 hown hK hP (mD hN _ _ _ _) hS 0 rfl rfl 5 (by decide) (hts _ mm_X12_go_1) (fun _ hh => hh) rfl (by decide +kernel) rfl rfl (Nat.le_of_ble_eq_true rfl) dX12_go_344 (fun H locs hP _ hS => ?_)
                          have hP : va_P (dC, dI) vwCl (mw ar cy (up2 st127 0 5 (nI (u25 + 1))) sl121) H := hP
                          obtain ⟨st128, est128⟩ : ∃ y, y = up2 st127 0 5 (nI (u25 + 1)) := ⟨_, rfl⟩
                          have hG : MG [1, 2, 3, 6, 7, 8, 9, 10, 11, 12, 13, 14, 15, 20, 21, 22, 23] st st128 := by rw [est128]; exact hG.up (rn (n := (u25 + 1)) (by decide : mr 0 5 = 941) (by omega)) (pn (by decide : pcl 0 5 = 4) (by decide))
                          rw [← est128] at hP
                          have hF : FM 1 st sl st128 sl121 := by rw [est128]; exact hF.up (by decide)
                          refine lv_goto (tgt := 215) hx hb dX12_go_347 (by decide) ?_
                          have hs9 := cnL_sn (B := B) (q := (tkq B g p)) (u := u25) (by omega) (fun hh => by have h1 : 97 ≤ B u25 ∧ B u25 ≤ 122 := hh; omega)
                          have hb9 := nmb_b (B := B) (q := (tkq B g p)) (u25 - (tkq B g p)) (fun j hj => (hB.2.2.2.2 _ (by omega)).2)
                          exact ih36 (941 - (u25 + 1)) _ _ _ _ (by omega) ⟨k106, st128, sl121, (u25 + 1), rfl, by omega, by omega, by rw [est128, up2_same], by omega, by omega, (rne_y (p := u25) (m := 941) ⟨by omega, Or.inr (show 48 ≤ B u25 ∧ B u25 ≤ 57 by omega)⟩ (by omega)).symm.trans hv30_2, by rw [hs9]; omega, fun hh => absurd hh (by rw [hs9]; omega), fun hh => by have h2 : 10 ^ (u25 - (tkq B g p)) ≤ 10 ^ 2 := Nat.pow_le_pow_right (by decide) (by omega); rw [hs9] at hh; show st128 0 8 = _; rw [est128, up2_ne (r := 0) (k := 5) (a := 0) (j := 8) _ _ (by omega), est127, up2_same, ez126, ez125, ez124, ez123, hv33_5 (by omega), nmb_s (by omega)]; exact zz_d10 (by omega) (by omega), (by show st128 0 6 = _; rw [est128, up2_ne (r := 0) (k := 5) (a := 0) (j := 6) _ _ (by omega), est127, up2_ne (r := 0) (k := 8) (a := 0) (j := 6) _ _ (by omega), hv34_6]), hF, hP, hG, hS, lv_sub hl [0, 2, 3, 4] rfl, rfl⟩
                    refine lv_iload_n hx hb dX12_go_254 rfl (lv_at hl 1 rfl) ?_
                    refine lv_if_eq (tgt := 271) hx hb dX12_go_255 (by decide) (fun c21 => ?_) (fun c21 => ?_)
                    · have c21 : k22 = 0 := (nI_eq (a := k22) (b := 0) (by omega) (by omega)).mp c21
                      refine lv_iconst (v := 0) hx hb dX12_go_271 (by decide) ?_
                      exact kj107 _ _ _ _ ⟨0, by omega, by omega, hP, hS, lv_sub hl [0, 1, 2, 3, 4] rfl, rfl⟩
                    · have c21 : ¬ k22 = 0 := fun hh => c21 ((nI_eq (a := k22) (b := 0) (by omega) (by omega)).mpr hh)
                      refine lv_iload hx hb dX12_go_258 (lv_at hl 0 rfl) ?_
                      refine va_calli (va_runS (As := [.int (nI (B u25))]) (rest := []) ⟨hx, hb, hml, hown, hts⟩ (f_isLetterN l dC dI ar cy _ hN st23 sl24 (B u25) (by omega) hG.1 ) (va_cwS 1 hts gX12_go_X12_isLetter rfl rfl rfl (by decide +kernel) ⟨Nat.le_of_ble_eq_true rfl, Nat.le_of_ble_eq_true rfl⟩) ⟨fun a U g mk q => ⟨q.1, mPre.blind q.2⟩, fun U hU hW => ⟨rfl, mPre.of hP hK hU hW⟩⟩ rfl rfl hl.1 rfl (lv_room (Nat.le_of_ble_eq_true rfl)) dX12_go_260 ⟨Nat.le_of_ble_eq_true rfl, Nat.le_of_ble_eq_true rfl⟩) hS (fun q _ h => MA.le hS.1 q h) (MA.le hS.1) (fun r129 x t H locs ht hvm hw hB9 _ _ hS => ?_)
                      have hP := mB.at ht hB9
                      clear hB9 ht hvm
                      obtain ⟨rfl, hw⟩ := hw
                      have hP : va_P (dC, dI) vwCl (mw ar cy st23 sl24) _ := hP
                      rcases hw with ⟨rfl, hf130, hf131⟩ | ⟨rfl, hf132⟩
                      · omega
                      · refine lv_iload_n hx hb dX12_go_263 rfl (lv_at hl 2 rfl) ?_
                        refine lv_icmp_ne (tgt := 271) hx hb dX12_go_264 (by decide) (fun c22 => ?_) (fun c22 => ?_)
                        · have c22 : ¬ 0 = k16 := fun hh => c22 ((nI_eq (a := 0) (b := k16) (by omega) (by omega)).mpr hh)
                          refine lv_iconst (v := 0) hx hb dX12_go_271 (by decide) ?_
                          exact kj107 _ _ _ _ ⟨0, by omega, by omega, hP, hS, lv_sub hl [0, 1, 2, 3, 4] rfl, rfl⟩
                        · have c22 : 0 = k16 := (nI_eq (a := 0) (b := k16) (by omega) (by omega)).mp c22
                          refine lv_iconst (v := 1) hx hb dX12_go_267 (by decide) ?_
                          refine lv_goto (tgt := 272) hx hb dX12_go_268 (by decide) ?_
                          exact kj107 _ _ _ _ ⟨1, by omega, by omega, hP, hS, lv_sub hl [0, 1, 2, 3, 4] rfl, rfl⟩
                  · refine lv_if_eq (tgt := 350) hx hb dX12_go_240 (by decide) (fun _ => ?_) (fun cc => absurd (by decide) cc)
                    refine lv_aload_n hx hb dX12_go_350 rfl (lv_at hl 3 rfl) ?_
                    refine lv_iload_n hx hb dX12_go_351 rfl (lv_at hl 0 rfl) ?_
                    refine lv_if_eq (tgt := 377) hx hb dX12_go_352 (by decide) (fun c24 => ?_) (fun c24 => ?_)
                    · have c24 : k22 = 0 := (nI_eq (a := k22) (b := 0) (by omega) (by omega)).mp c24
                      refine lv_iconst (v := 1) hx hb dX12_go_377 (by decide) ?_
                      refine lv_goto (tgt := 390) hx hb dX12_go_378 (by decide) ?_
                      refine va_put (D := (dC, dI)) (ci := 11) (v := .int 1) (ty := .int) (C := RX12) (T := TX12) (N := 47) hx hb hts ii_X12_go tyX12 tyX12_ok nmX12 hown hK hP (mD hN _ _ _ _) hS 0 rfl rfl 7 (by decide) (hts _ mm_X12_go_6) (fun _ hh => hh) rfl (by decide +kernel) rfl rfl (Nat.le_of_ble_eq_true rfl) dX12_go_390 (fun H locs hP _ hS => ?_)
                      have hP : va_P (dC, dI) vwCl (mw ar cy (up2 st23 0 7 1) sl24) H := hP
                      obtain ⟨st133, est133⟩ : ∃ y, y = up2 st23 0 7 1 := ⟨_, rfl⟩
                      have hG : MG [1, 2, 3, 6, 7, 8, 9, 10, 11, 12, 13, 14, 15, 20, 21, 22, 23] st st133 := by rw [est133]; exact hG.up (rz (by decide : mr 0 7 = 0)) (pn (by decide : pcl 0 7 = 5) (by decide))
                      rw [← est133] at hP
                      have hF : FM 1 st sl st133 sl24 := by rw [est133]; exact hF.up (by decide)
                      have he9 : tke B g p = u25 := hv30_2.symm.trans (rne_n (fun hh => by have h1 := hh.1; have h2 : (97 ≤ B u25 ∧ B u25 ≤ 122) ∨ (48 ≤ B u25 ∧ B u25 ≤ 57) := hh.2; omega))
                      have hn9 : tkn B g p = u25 - (tkq B g p) := by unfold tkn; rw [he9]
                      have hc9 := cnL_le (B := B) (q := (tkq B g p)) (u25 - (tkq B g p))
                      have hn8 := tkn_pos (B := B) (g := g) (p := p) (by omega) hB1 (by omega) hv15_0
                      have hl9 := cnL_first (B := B) (q := (tkq B g p)) (u25 - (tkq B g p))
                      exact W.vret hx hb hr (fun t ht hW => ⟨⟨(st133, sl24), rfl, ⟨hG, hF, TM.run hpg hB1 hv12_0 (by omega) hv15_0 1 (by rw [hn9]; omega) (by rw [he9]; exact (by show st133 0 5 = _; rw [est133, up2_ne (r := 0) (k := 7) (a := 0) (j := 5) _ _ (by omega), eu25])) (by show st133 0 6 = _; rw [est133, up2_ne (r := 0) (k := 7) (a := 0) (j := 6) _ _ (by omega), hv34_6]) (by show st133 0 7 = _; rw [est133, up2_same]; rfl) (fun hh => absurd hh (by omega)) (fun hh => absurd hh (by omega))⟩, mB.of ht hP⟩, hS.F ht⟩) hS.2.2 dX12_go_393
                    · have c24 : ¬ k22 = 0 := fun hh => c24 ((nI_eq (a := k22) (b := 0) (by omega) (by omega)).mpr hh)
                      refine lv_aload_n hx hb dX12_go_355 rfl (lv_at hl 3 rfl) ?_
                      refine va_get (D := (dC, dI)) (ci := 11) (v := .int (st23 0 5)) (C := RX12) (T := TX12) (N := 47) hx hb hts ii_X12_go hown hK hP 0 rfl rfl 5 (by decide) (hts _ mm_X12_go_1) (fun _ hh => hh) rfl dX12_go_356 ?_
                      refine zz_top (v := (nI u25)) (by show st23 0 5 = _; rw [eu25]) ?_
                      refine lv_aload_n hx hb dX12_go_359 rfl (lv_at hl 3 rfl) ?_
                      refine va_get (D := (dC, dI)) (ci := 11) (v := .int (st23 0 6)) (C := RX12) (T := TX12) (N := 47) hx hb hts ii_X12_go hown hK hP 0 rfl rfl 6 (by decide) (hts _ mm_X12_go_4) (fun _ hh => hh) rfl dX12_go_360 ?_
                      refine zz_top (v := (nI (tkq B g p))) (by show st23 0 6 = _; rw [hv34_6]) ?_
                      refine lv_isub hx hb dX12_go_363 ?_
                      refine zz_top (v := nI (u25 - (tkq B g p))) (nI_subN (a := u25) (b := (tkq B g p)) (by omega) (by omega)) ?_
                      refine lv_iload_n hx hb dX12_go_364 rfl (lv_at hl 1 rfl) ?_
                      refine lv_if_eq (tgt := 373) hx hb dX12_go_365 (by decide) (fun c25 => ?_) (fun c25 => ?_)
                      · have c25 : k16 = 0 := (nI_eq (a := k16) (b := 0) (by omega) (by omega)).mp c25
                        refine lv_iconst (v := 3) hx hb dX12_go_373 (by decide) ?_
                        refine lv_icmp_le (tgt := 381) hx hb dX12_go_374 (by decide) (fun c26 => ?_) (fun c26 => ?_)
                        · have c26 : (u25 - (tkq B g p)) ≤ 3 := (nI_leI (a := (u25 - (tkq B g p))) (b := 3) (by omega) (by omega)).mp c26
                          refine lv_iload_n hx hb dX12_go_381 rfl (lv_at hl 1 rfl) ?_
                          refine lv_if_eq (tgt := 389) hx hb dX12_go_382 (by decide) (fun c27 => ?_) (fun c27 => ?_)
                          · have c27 : k16 = 0 := (nI_eq (a := k16) (b := 0) (by omega) (by omega)).mp c27
                            refine lv_iconst (v := 3) hx hb dX12_go_389 (by decide) ?_
                            refine va_put (D := (dC, dI)) (ci := 11) (v := .int 3) (ty := .int) (C := RX12) (T := TX12) (N := 47) hx hb hts ii_X12_go tyX12 tyX12_ok nmX12 hown hK hP (mD hN _ _ _ _) hS 0 rfl rfl 7 (by decide) (hts _ mm_X12_go_6) (fun _ hh => hh) rfl (by decide +kernel) rfl rfl (Nat.le_of_ble_eq_true rfl) dX12_go_390 (fun H locs hP _ hS => ?_)
                            have hP : va_P (dC, dI) vwCl (mw ar cy (up2 st23 0 7 3) sl24) H := hP
                            obtain ⟨st134, est134⟩ : ∃ y, y = up2 st23 0 7 3 := ⟨_, rfl⟩
                            have hG : MG [1, 2, 3, 6, 7, 8, 9, 10, 11, 12, 13, 14, 15, 20, 21, 22, 23] st st134 := by rw [est134]; exact hG.up (rz (by decide : mr 0 7 = 0)) (pn (by decide : pcl 0 7 = 5) (by decide))
                            rw [← est134] at hP
                            have hF : FM 1 st sl st134 sl24 := by rw [est134]; exact hF.up (by decide)
                            have he9 : tke B g p = u25 := hv30_2.symm.trans (rne_n (fun hh => by have h1 := hh.1; have h2 : (97 ≤ B u25 ∧ B u25 ≤ 122) ∨ (48 ≤ B u25 ∧ B u25 ≤ 57) := hh.2; omega))
                            have hn9 : tkn B g p = u25 - (tkq B g p) := by unfold tkn; rw [he9]
                            have hc9 := cnL_le (B := B) (q := (tkq B g p)) (u25 - (tkq B g p))
                            have hn8 := tkn_pos (B := B) (g := g) (p := p) (by omega) hB1 (by omega) hv15_0
                            have hl9 := cnL_first (B := B) (q := (tkq B g p)) (u25 - (tkq B g p))
                            exact W.vret hx hb hr (fun t ht hW => ⟨⟨(st134, sl24), rfl, ⟨hG, hF, TM.run hpg hB1 hv12_0 (by omega) hv15_0 3 (by rw [hn9]; omega) (by rw [he9]; exact (by show st134 0 5 = _; rw [est134, up2_ne (r := 0) (k := 7) (a := 0) (j := 5) _ _ (by omega), eu25])) (by show st134 0 6 = _; rw [est134, up2_ne (r := 0) (k := 7) (a := 0) (j := 6) _ _ (by omega), hv34_6]) (by show st134 0 7 = _; rw [est134, up2_same]; rfl) (fun _ => by rw [hn9]; show st134 0 8 = _; rw [est134, up2_ne (r := 0) (k := 7) (a := 0) (j := 8) _ _ (by omega)]; exact hv33_5 (by omega)) (fun hh => absurd hh (by omega))⟩, mB.of ht hP⟩, hS.F ht⟩) hS.2.2 dX12_go_393
                          · have c27 : ¬ k16 = 0 := fun hh => c27 ((nI_eq (a := k16) (b := 0) (by omega) (by omega)).mpr hh)
                            refine lv_iconst (v := 2) hx hb dX12_go_385 (by decide) ?_
                            refine lv_goto (tgt := 390) hx hb dX12_go_386 (by decide) ?_
                            refine va_put (D := (dC, dI)) (ci := 11) (v := .int 2) (ty := .int) (C := RX12) (T := TX12) (N := 47) hx hb hts ii_X12_go tyX12 tyX12_ok nmX12 hown hK hP (mD hN _ _ _ _) hS 0 rfl rfl 7 (by decide) (hts _ mm_X12_go_6) (fun _ hh => hh) rfl (by decide +kernel) rfl rfl (Nat.le_of_ble_eq_true rfl) dX12_go_390 (fun H locs hP _ hS => ?_)
                            have hP : va_P (dC, dI) vwCl (mw ar cy (up2 st23 0 7 2) sl24) H := hP
                            obtain ⟨st135, est135⟩ : ∃ y, y = up2 st23 0 7 2 := ⟨_, rfl⟩
                            have hG : MG [1, 2, 3, 6, 7, 8, 9, 10, 11, 12, 13, 14, 15, 20, 21, 22, 23] st st135 := by rw [est135]; exact hG.up (rz (by decide : mr 0 7 = 0)) (pn (by decide : pcl 0 7 = 5) (by decide))
                            rw [← est135] at hP
                            have hF : FM 1 st sl st135 sl24 := by rw [est135]; exact hF.up (by decide)
                            have he9 : tke B g p = u25 := hv30_2.symm.trans (rne_n (fun hh => by have h1 := hh.1; have h2 : (97 ≤ B u25 ∧ B u25 ≤ 122) ∨ (48 ≤ B u25 ∧ B u25 ≤ 57) := hh.2; omega))
                            have hn9 : tkn B g p = u25 - (tkq B g p) := by unfold tkn; rw [he9]
                            have hc9 := cnL_le (B := B) (q := (tkq B g p)) (u25 - (tkq B g p))
                            have hn8 := tkn_pos (B := B) (g := g) (p := p) (by omega) hB1 (by omega) hv15_0
                            have hl9 := cnL_first (B := B) (q := (tkq B g p)) (u25 - (tkq B g p))
                            exact W.vret hx hb hr (fun t ht hW => ⟨⟨(st135, sl24), rfl, ⟨hG, hF, TM.run hpg hB1 hv12_0 (by omega) hv15_0 2 (by rw [hn9]; omega) (by rw [he9]; exact (by show st135 0 5 = _; rw [est135, up2_ne (r := 0) (k := 7) (a := 0) (j := 5) _ _ (by omega), eu25])) (by show st135 0 6 = _; rw [est135, up2_ne (r := 0) (k := 7) (a := 0) (j := 6) _ _ (by omega), hv34_6]) (by show st135 0 7 = _; rw [est135, up2_same]; rfl) (fun hh => absurd hh (by omega)) (fun _ => by rw [hn9]; exact hv32_4 (by omega))⟩, mB.of ht hP⟩, hS.F ht⟩) hS.2.2 dX12_go_393
                        · have c26 : ¬ (u25 - (tkq B g p)) ≤ 3 := fun hh => c26 ((nI_leI (a := (u25 - (tkq B g p))) (b := 3) (by omega) (by omega)).mpr hh)
                          refine lv_iconst (v := 1) hx hb dX12_go_377 (by decide) ?_
                          refine lv_goto (tgt := 390) hx hb dX12_go_378 (by decide) ?_
                          refine va_put (D := (dC, dI)) (ci := 11) (v := .int 1) (ty := .int) (C := RX12) (T := TX12) (N := 47) hx hb hts ii_X12_go tyX12 tyX12_ok nmX12 hown hK hP (mD hN _ _ _ _) hS 0 rfl rfl 7 (by decide) (hts _ mm_X12_go_6) (fun _ hh => hh) rfl (by decide +kernel) rfl rfl (Nat.le_of_ble_eq_true rfl) dX12_go_390 (fun H locs hP _ hS => ?_)
                          have hP : va_P (dC, dI) vwCl (mw ar cy (up2 st23 0 7 1) sl24) H := hP
                          obtain ⟨st136, est136⟩ : ∃ y, y = up2 st23 0 7 1 := ⟨_, rfl⟩
                          have hG : MG [1, 2, 3, 6, 7, 8, 9, 10, 11, 12, 13, 14, 15, 20, 21, 22, 23] st st136 := by rw [est136]; exact hG.up (rz (by decide : mr 0 7 = 0)) (pn (by decide : pcl 0 7 = 5) (by decide))
                          rw [← est136] at hP
                          have hF : FM 1 st sl st136 sl24 := by rw [est136]; exact hF.up (by decide)
                          have he9 : tke B g p = u25 := hv30_2.symm.trans (rne_n (fun hh => by have h1 := hh.1; have h2 : (97 ≤ B u25 ∧ B u25 ≤ 122) ∨ (48 ≤ B u25 ∧ B u25 ≤ 57) := hh.2; omega))
                          have hn9 : tkn B g p = u25 - (tkq B g p) := by unfold tkn; rw [he9]
                          have hc9 := cnL_le (B := B) (q := (tkq B g p)) (u25 - (tkq B g p))
                          have hn8 := tkn_pos (B := B) (g := g) (p := p) (by omega) hB1 (by omega) hv15_0
                          have hl9 := cnL_first (B := B) (q := (tkq B g p)) (u25 - (tkq B g p))
                          exact W.vret hx hb hr (fun t ht hW => ⟨⟨(st136, sl24), rfl, ⟨hG, hF, TM.run hpg hB1 hv12_0 (by omega) hv15_0 1 (by rw [hn9]; omega) (by rw [he9]; exact (by show st136 0 5 = _; rw [est136, up2_ne (r := 0) (k := 7) (a := 0) (j := 5) _ _ (by omega), eu25])) (by show st136 0 6 = _; rw [est136, up2_ne (r := 0) (k := 7) (a := 0) (j := 6) _ _ (by omega), hv34_6]) (by show st136 0 7 = _; rw [est136, up2_same]; rfl) (fun hh => absurd hh (by omega)) (fun hh => absurd hh (by omega))⟩, mB.of ht hP⟩, hS.F ht⟩) hS.2.2 dX12_go_393
                      · have c25 : ¬ k16 = 0 := fun hh => c25 ((nI_eq (a := k16) (b := 0) (by omega) (by omega)).mpr hh)
                        refine lv_bipush (v := 7) hx hb dX12_go_368 (by decide) ?_
                        refine lv_goto (tgt := 374) hx hb dX12_go_370 (by decide) ?_
                        refine lv_icmp_le (tgt := 381) hx hb dX12_go_374 (by decide) (fun c28 => ?_) (fun c28 => ?_)
                        · have c28 : (u25 - (tkq B g p)) ≤ 7 := (nI_leI (a := (u25 - (tkq B g p))) (b := 7) (by omega) (by omega)).mp c28
                          refine lv_iload_n hx hb dX12_go_381 rfl (lv_at hl 1 rfl) ?_
                          refine lv_if_eq (tgt := 389) hx hb dX12_go_382 (by decide) (fun cc => absurd ((nI_eq (a := k16) (b := 0) (by omega) (by omega)).mp cc) (by omega)) (fun _ => ?_)
                          refine lv_iconst (v := 2) hx hb dX12_go_385 (by decide) ?_
                          refine lv_goto (tgt := 390) hx hb dX12_go_386 (by decide) ?_
                          refine va_put (D := (dC, dI)) (ci := 11) (v := .int 2) (ty := .int) (C := RX12) (T := TX12) (N := 47) hx hb hts ii_X12_go tyX12 tyX12_ok nmX12 hown hK hP (mD hN _ _ _ _) hS 0 rfl rfl 7 (by decide) (hts _ mm_X12_go_6) (fun _ hh => hh) rfl (by decide +kernel) rfl rfl (Nat.le_of_ble_eq_true rfl) dX12_go_390 (fun H locs hP _ hS => ?_)
                          have hP : va_P (dC, dI) vwCl (mw ar cy (up2 st23 0 7 2) sl24) H := hP
                          obtain ⟨st137, est137⟩ : ∃ y, y = up2 st23 0 7 2 := ⟨_, rfl⟩
                          have hG : MG [1, 2, 3, 6, 7, 8, 9, 10, 11, 12, 13, 14, 15, 20, 21, 22, 23] st st137 := by rw [est137]; exact hG.up (rz (by decide : mr 0 7 = 0)) (pn (by decide : pcl 0 7 = 5) (by decide))
                          rw [← est137] at hP
                          have hF : FM 1 st sl st137 sl24 := by rw [est137]; exact hF.up (by decide)
                          have he9 : tke B g p = u25 := hv30_2.symm.trans (rne_n (fun hh => by have h1 := hh.1; have h2 : (97 ≤ B u25 ∧ B u25 ≤ 122) ∨ (48 ≤ B u25 ∧ B u25 ≤ 57) := hh.2; omega))
                          have hn9 : tkn B g p = u25 - (tkq B g p) := by unfold tkn; rw [he9]
                          have hc9 := cnL_le (B := B) (q := (tkq B g p)) (u25 - (tkq B g p))
                          have hn8 := tkn_pos (B := B) (g := g) (p := p) (by omega) hB1 (by omega) hv15_0
                          have hl9 := cnL_first (B := B) (q := (tkq B g p)) (u25 - (tkq B g p))
                          exact W.vret hx hb hr (fun t ht hW => ⟨⟨(st137, sl24), rfl, ⟨hG, hF, TM.run hpg hB1 hv12_0 (by omega) hv15_0 2 (by rw [hn9]; omega) (by rw [he9]; exact (by show st137 0 5 = _; rw [est137, up2_ne (r := 0) (k := 7) (a := 0) (j := 5) _ _ (by omega), eu25])) (by show st137 0 6 = _; rw [est137, up2_ne (r := 0) (k := 7) (a := 0) (j := 6) _ _ (by omega), hv34_6]) (by show st137 0 7 = _; rw [est137, up2_same]; rfl) (fun hh => absurd hh (by omega)) (fun _ => by rw [hn9]; exact hv32_4 (by omega))⟩, mB.of ht hP⟩, hS.F ht⟩) hS.2.2 dX12_go_393
                        · have c28 : ¬ (u25 - (tkq B g p)) ≤ 7 := fun hh => c28 ((nI_leI (a := (u25 - (tkq B g p))) (b := 7) (by omega) (by omega)).mpr hh)
                          refine lv_iconst (v := 1) hx hb dX12_go_377 (by decide) ?_
                          refine lv_goto (tgt := 390) hx hb dX12_go_378 (by decide) ?_
                          refine va_put (D := (dC, dI)) (ci := 11) (v := .int 1) (ty := .int) (C := RX12) (T := TX12) (N := 47) hx hb hts ii_X12_go tyX12 tyX12_ok nmX12 hown hK hP (mD hN _ _ _ _) hS 0 rfl rfl 7 (by decide) (hts _ mm_X12_go_6) (fun _ hh => hh) rfl (by decide +kernel) rfl rfl (Nat.le_of_ble_eq_true rfl) dX12_go_390 (fun H locs hP _ hS => ?_)
                          have hP : va_P (dC, dI) vwCl (mw ar cy (up2 st23 0 7 1) sl24) H := hP
                          obtain ⟨st138, est138⟩ : ∃ y, y = up2 st23 0 7 1 := ⟨_, rfl⟩
                          have hG : MG [1, 2, 3, 6, 7, 8, 9, 10, 11, 12, 13, 14, 15, 20, 21, 22, 23] st st138 := by rw [est138]; exact hG.up (rz (by decide : mr 0 7 = 0)) (pn (by decide : pcl 0 7 = 5) (by decide))
                          rw [← est138] at hP
                          have hF : FM 1 st sl st138 sl24 := by rw [est138]; exact hF.up (by decide)
                          have he9 : tke B g p = u25 := hv30_2.symm.trans (rne_n (fun hh => by have h1 := hh.1; have h2 : (97 ≤ B u25 ∧ B u25 ≤ 122) ∨ (48 ≤ B u25 ∧ B u25 ≤ 57) := hh.2; omega))
                          have hn9 : tkn B g p = u25 - (tkq B g p) := by unfold tkn; rw [he9]
                          have hc9 := cnL_le (B := B) (q := (tkq B g p)) (u25 - (tkq B g p))
                          have hn8 := tkn_pos (B := B) (g := g) (p := p) (by omega) hB1 (by omega) hv15_0
                          have hl9 := cnL_first (B := B) (q := (tkq B g p)) (u25 - (tkq B g p))
                          exact W.vret hx hb hr (fun t ht hW => ⟨⟨(st138, sl24), rfl, ⟨hG, hF, TM.run hpg hB1 hv12_0 (by omega) hv15_0 1 (by rw [hn9]; omega) (by rw [he9]; exact (by show st138 0 5 = _; rw [est138, up2_ne (r := 0) (k := 7) (a := 0) (j := 5) _ _ (by omega), eu25])) (by show st138 0 6 = _; rw [est138, up2_ne (r := 0) (k := 7) (a := 0) (j := 6) _ _ (by omega), hv34_6]) (by show st138 0 7 = _; rw [est138, up2_same]; rfl) (fun hh => absurd hh (by omega)) (fun hh => absurd hh (by omega))⟩, mB.of ht hP⟩, hS.F ht⟩) hS.2.2 dX12_go_393
          refine lv_iload_n hx hb dX12_go_198 rfl (lv_at hl 0 rfl) ?_
          refine va_calli (va_runS (As := [.int (nI (B (tkq B g p)))]) (rest := []) ⟨hx, hb, hml, hown, hts⟩ (f_isLetterN l dC dI ar cy _ hN st10 sl2 (B (tkq B g p)) (by omega) hG.1 ) (va_cwS 1 hts gX12_go_X12_isLetter rfl rfl rfl (by decide +kernel) ⟨Nat.le_of_ble_eq_true rfl, Nat.le_of_ble_eq_true rfl⟩) ⟨fun a U g mk q => ⟨q.1, mPre.blind q.2⟩, fun U hU hW => ⟨rfl, mPre.of hP hK hU hW⟩⟩ rfl rfl hl.1 rfl (lv_room (Nat.le_of_ble_eq_true rfl)) dX12_go_199 ⟨Nat.le_of_ble_eq_true rfl, Nat.le_of_ble_eq_true rfl⟩) hS (fun q _ h => MA.le hS.1 q h) (MA.le hS.1) (fun r139 x t H locs ht hvm hw hB9 _ _ hS => ?_)
          have hP := mB.at ht hB9
          clear hB9 ht hvm
          obtain ⟨rfl, hw⟩ := hw
          have hP : va_P (dC, dI) vwCl (mw ar cy st10 sl2) _ := hP
          rcases hw with ⟨rfl, hf140, hf141⟩ | ⟨rfl, hf142⟩
          · exact kj17 _ _ _ _ ⟨1, by omega, by omega, hP, hS, lv_sub hl [0, 1] rfl, rfl⟩
          · exact kj17 _ _ _ _ ⟨0, by omega, by omega, hP, hS, lv_sub hl [0, 1] rfl, rfl⟩
        refine lv_iload_n hx hb dX12_go_123 rfl (lv_at hl 0 rfl) ?_
        refine va_calli (va_runS (As := [.int (nI (B (tkq B g p)))]) (rest := []) ⟨hx, hb, hml, hown, hts⟩ (f_isLetterN l dC dI ar cy _ hN st10 sl2 (B (tkq B g p)) (by omega) hG.1 ) (va_cwS 1 hts gX12_go_X12_isLetter rfl rfl rfl (by decide +kernel) ⟨Nat.le_of_ble_eq_true rfl, Nat.le_of_ble_eq_true rfl⟩) ⟨fun a U g mk q => ⟨q.1, mPre.blind q.2⟩, fun U hU hW => ⟨rfl, mPre.of hP hK hU hW⟩⟩ rfl rfl hl.1 rfl (lv_room (Nat.le_of_ble_eq_true rfl)) dX12_go_124 ⟨Nat.le_of_ble_eq_true rfl, Nat.le_of_ble_eq_true rfl⟩) hS (fun q _ h => MA.le hS.1 q h) (MA.le hS.1) (fun r143 x t H locs ht hvm hw hB9 _ _ hS => ?_)
        have hP := mB.at ht hB9
        clear hB9 ht hvm
        obtain ⟨rfl, hw⟩ := hw
        have hP : va_P (dC, dI) vwCl (mw ar cy st10 sl2) _ := hP
        rcases hw with ⟨rfl, hf144, hf145⟩ | ⟨rfl, hf146⟩
        · refine lv_if_ne (tgt := 198) hx hb dX12_go_127 (by decide) (fun _ => ?_) (fun cc => absurd cc (by decide))
          exact kj14 _ _ _ _ ⟨show (97 ≤ B (tkq B g p) ∧ B (tkq B g p) ≤ 122) ∨ (48 ≤ B (tkq B g p) ∧ B (tkq B g p) ≤ 57) by omega, hP, hS, lv_sub hl [0, 1] rfl, rfl⟩
        · refine lv_if_ne (tgt := 198) hx hb dX12_go_127 (by decide) (fun cc => absurd (by decide) cc) (fun _ => ?_)
          refine lv_iload_n hx hb dX12_go_130 rfl (lv_at hl 0 rfl) ?_
          refine va_calli (va_runS (As := [.int (nI (B (tkq B g p)))]) (rest := []) ⟨hx, hb, hml, hown, hts⟩ (f_isDigitN l dC dI ar cy _ hN st10 sl2 (B (tkq B g p)) (by omega) hG.1 ) (va_cwS 1 hts gX12_go_X12_isDigit rfl rfl rfl (by decide +kernel) ⟨Nat.le_of_ble_eq_true rfl, Nat.le_of_ble_eq_true rfl⟩) ⟨fun a U g mk q => ⟨q.1, mPre.blind q.2⟩, fun U hU hW => ⟨rfl, mPre.of hP hK hU hW⟩⟩ rfl rfl hl.1 rfl (lv_room (Nat.le_of_ble_eq_true rfl)) dX12_go_131 ⟨Nat.le_of_ble_eq_true rfl, Nat.le_of_ble_eq_true rfl⟩) hS (fun q _ h => MA.le hS.1 q h) (MA.le hS.1) (fun r147 x t H locs ht hvm hw hB9 _ _ hS => ?_)
          have hP := mB.at ht hB9
          clear hB9 ht hvm
          obtain ⟨rfl, hw⟩ := hw
          have hP : va_P (dC, dI) vwCl (mw ar cy st10 sl2) _ := hP
          rcases hw with ⟨rfl, hf148, hf149⟩ | ⟨rfl, hf150⟩
          · refine lv_if_ne (tgt := 198) hx hb dX12_go_134 (by decide) (fun _ => ?_) (fun cc => absurd cc (by decide))
            exact kj14 _ _ _ _ ⟨show (97 ≤ B (tkq B g p) ∧ B (tkq B g p) ≤ 122) ∨ (48 ≤ B (tkq B g p) ∧ B (tkq B g p) ≤ 57) by omega, hP, hS, lv_sub hl [0, 1] rfl, rfl⟩
          · refine lv_if_ne (tgt := 198) hx hb dX12_go_134 (by decide) (fun cc => absurd (by decide) cc) (fun _ => ?_)
            refine lv_aload_n hx hb dX12_go_137 rfl (lv_at hl 1 rfl) ?_
            refine lv_iload_n hx hb dX12_go_138 rfl (lv_at hl 0 rfl) ?_
            refine lv_bipush (v := 59) hx hb dX12_go_139 (by decide) ?_
            refine lv_icmp_eq (tgt := 174) hx hb dX12_go_141 (by decide) (fun c34 => ?_) (fun c34 => ?_)
            · have c34 : (B (tkq B g p)) = 59 := (nI_eq (a := (B (tkq B g p))) (b := 59) (by omega) (by omega)).mp c34
              refine lv_iconst (v := 4) hx hb dX12_go_174 (by decide) ?_
              refine lv_goto (tgt := 179) hx hb dX12_go_175 (by decide) ?_
              refine va_put (D := (dC, dI)) (ci := 11) (v := .int 4) (ty := .int) (C := RX12) (T := TX12) (N := 47) hx hb hts ii_X12_go tyX12 tyX12_ok nmX12 hown hK hP (mD hN _ _ _ _) hS 0 rfl rfl 7 (by decide) (hts _ mm_X12_go_6) (fun _ hh => hh) rfl (by decide +kernel) rfl rfl (Nat.le_of_ble_eq_true rfl) dX12_go_179 (fun H locs hP _ hS => ?_)
              have hP : va_P (dC, dI) vwCl (mw ar cy (up2 st10 0 7 4) sl2) H := hP
              obtain ⟨st151, est151⟩ : ∃ y, y = up2 st10 0 7 4 := ⟨_, rfl⟩
              have hG : MG [1, 2, 3, 6, 7, 8, 9, 10, 11, 12, 13, 14, 15, 20, 21, 22, 23] st st151 := by rw [est151]; exact hG.up (rz (by decide : mr 0 7 = 0)) (pn (by decide : pcl 0 7 = 5) (by decide))
              rw [← est151] at hP
              have hF : FM 1 st sl st151 sl2 := by rw [est151]; exact hF.up (by decide)
              refine lv_aload_n hx hb dX12_go_182 rfl (lv_at hl 1 rfl) ?_
              refine lv_iload_n hx hb dX12_go_183 rfl (lv_at hl 0 rfl) ?_
              refine va_put (D := (dC, dI)) (ci := 11) (v := .int (nI (B (tkq B g p)))) (ty := .int) (C := RX12) (T := TX12) (N := 47) hx hb hts ii_X12_go tyX12 tyX12_ok nmX12 hown hK hP (mD hN _ _ _ _) hS 0 rfl rfl 9 (by decide) (hts _ mm_X12_go_7) (fun _ hh => hh) rfl (by decide +kernel) rfl rfl (Nat.le_of_ble_eq_true rfl) dX12_go_184 (fun H locs hP _ hS => ?_)
              have hP : va_P (dC, dI) vwCl (mw ar cy (up2 st151 0 9 (nI (B (tkq B g p)))) sl2) H := hP
              obtain ⟨st152, est152⟩ : ∃ y, y = up2 st151 0 9 (nI (B (tkq B g p))) := ⟨_, rfl⟩
              have hG : MG [1, 2, 3, 6, 7, 8, 9, 10, 11, 12, 13, 14, 15, 20, 21, 22, 23] st st152 := by rw [est152]; exact hG.up (rz (by decide : mr 0 9 = 0)) (pn (by decide : pcl 0 9 = 0) (by decide))
              rw [← est152] at hP
              have hF : FM 1 st sl st152 sl2 := by rw [est152]; exact hF.up (by decide)
              refine lv_aload_n hx hb dX12_go_187 rfl (lv_at hl 1 rfl) ?_
              refine lv_dup hx hb dX12_go_188 rfl ?_
              refine va_get (D := (dC, dI)) (ci := 11) (v := .int (st152 0 5)) (C := RX12) (T := TX12) (N := 47) hx hb hts ii_X12_go hown hK hP 0 rfl rfl 5 (by decide) (hts _ mm_X12_go_1) (fun _ hh => hh) rfl dX12_go_189 ?_
              refine zz_top (v := (nI (tkq B g p))) (by show st152 0 5 = _; rw [est152, up2_ne (r := 0) (k := 9) (a := 0) (j := 5) _ _ (by omega), est151, up2_ne (r := 0) (k := 7) (a := 0) (j := 5) _ _ (by omega), est10, up2_ne (r := 0) (k := 6) (a := 0) (j := 5) _ _ (by omega), hv9_0]) ?_
              refine lv_iconst (v := 1) hx hb dX12_go_192 (by decide) ?_
              refine lv_iadd hx hb dX12_go_193 ?_
              refine zz_top (v := nI ((tkq B g p) + 1)) (nI_add (tkq B g p) 1) ?_
              refine va_put (D := (dC, dI)) (ci := 11) (v := .int (nI ((tkq B g p) + 1))) (ty := .int) (C := RX12) (T := TX12) (N := 47) hx hb hts ii_X12_go tyX12 tyX12_ok nmX12 hown hK hP (mD hN _ _ _ _) hS 0 rfl rfl 5 (by decide) (hts _ mm_X12_go_1) (fun _ hh => hh) rfl (by decide +kernel) rfl rfl (Nat.le_of_ble_eq_true rfl) dX12_go_194 (fun H locs hP _ hS => ?_)
              have hP : va_P (dC, dI) vwCl (mw ar cy (up2 st152 0 5 (nI ((tkq B g p) + 1))) sl2) H := hP
              obtain ⟨st153, est153⟩ : ∃ y, y = up2 st152 0 5 (nI ((tkq B g p) + 1)) := ⟨_, rfl⟩
              have hG : MG [1, 2, 3, 6, 7, 8, 9, 10, 11, 12, 13, 14, 15, 20, 21, 22, 23] st st153 := by rw [est153]; exact hG.up (rn (n := ((tkq B g p) + 1)) (by decide : mr 0 5 = 941) (by omega)) (pn (by decide : pcl 0 5 = 4) (by decide))
              rw [← est153] at hP
              have hF : FM 1 st sl st153 sl2 := by rw [est153]; exact hF.up (by decide)
              exact W.vret hx hb hr (fun t ht hW => ⟨⟨(st153, sl2), rfl, ⟨hG, hF, TM.sign hpg hv12_0 (by omega) (fun hh => by have h3 : (97 ≤ B (tkq B g p) ∧ B (tkq B g p) ≤ 122) ∨ (48 ≤ B (tkq B g p) ∧ B (tkq B g p) ≤ 57) := hh; omega) 4 (by show (4 = 4 ∧ (B (tkq B g p) = 59 ∨ B (tkq B g p) = 60 ∨ B (tkq B g p) = 61 ∨ B (tkq B g p) = 62 ∨ B (tkq B g p) = 40 ∨ B (tkq B g p) = 41)) ∨ (4 = 1 ∧ ¬ (B (tkq B g p) = 59 ∨ B (tkq B g p) = 60 ∨ B (tkq B g p) = 61 ∨ B (tkq B g p) = 62 ∨ B (tkq B g p) = 40 ∨ B (tkq B g p) = 41)); omega) (by show st153 0 5 = _; rw [est153, up2_same]) (by show st153 0 6 = _; rw [est153, up2_ne (r := 0) (k := 5) (a := 0) (j := 6) _ _ (by omega), est152, up2_ne (r := 0) (k := 9) (a := 0) (j := 6) _ _ (by omega), est151, up2_ne (r := 0) (k := 7) (a := 0) (j := 6) _ _ (by omega), est10, up2_same]) (by show st153 0 7 = _; rw [est153, up2_ne (r := 0) (k := 5) (a := 0) (j := 7) _ _ (by omega), est152, up2_ne (r := 0) (k := 9) (a := 0) (j := 7) _ _ (by omega), est151, up2_same]; rfl) (by show st153 0 9 = _; rw [est153, up2_ne (r := 0) (k := 5) (a := 0) (j := 9) _ _ (by omega), est152, up2_same])⟩, mB.of ht hP⟩, hS.F ht⟩) hS.2.2 dX12_go_197
            · have c34 : ¬ (B (tkq B g p)) = 59 := fun hh => c34 ((nI_eq (a := (B (tkq B g p))) (b := 59) (by omega) (by omega)).mpr hh)
              refine lv_iload_n hx hb dX12_go_144 rfl (lv_at hl 0 rfl) ?_
              refine lv_bipush (v := 60) hx hb dX12_go_145 (by decide) ?_
              refine lv_icmp_eq (tgt := 174) hx hb dX12_go_147 (by decide) (fun c35 => ?_) (fun c35 => ?_)
              · have c35 : (B (tkq B g p)) = 60 := (nI_eq (a := (B (tkq B g p))) (b := 60) (by omega) (by omega)).mp c35
                refine lv_iconst (v := 4) hx hb dX12_go_174 (by decide) ?_
                refine lv_goto (tgt := 179) hx hb dX12_go_175 (by decide) ?_
                refine va_put (D := (dC, dI)) (ci := 11) (v := .int 4) (ty := .int) (C := RX12) (T := TX12) (N := 47) hx hb hts ii_X12_go tyX12 tyX12_ok nmX12 hown hK hP (mD hN _ _ _ _) hS 0 rfl rfl 7 (by decide) (hts _ mm_X12_go_6) (fun _ hh => hh) rfl (by decide +kernel) rfl rfl (Nat.le_of_ble_eq_true rfl) dX12_go_179 (fun H locs hP _ hS => ?_)
                have hP : va_P (dC, dI) vwCl (mw ar cy (up2 st10 0 7 4) sl2) H := hP
                obtain ⟨st154, est154⟩ : ∃ y, y = up2 st10 0 7 4 := ⟨_, rfl⟩
                have hG : MG [1, 2, 3, 6, 7, 8, 9, 10, 11, 12, 13, 14, 15, 20, 21, 22, 23] st st154 := by rw [est154]; exact hG.up (rz (by decide : mr 0 7 = 0)) (pn (by decide : pcl 0 7 = 5) (by decide))
                rw [← est154] at hP
                have hF : FM 1 st sl st154 sl2 := by rw [est154]; exact hF.up (by decide)
                refine lv_aload_n hx hb dX12_go_182 rfl (lv_at hl 1 rfl) ?_
                refine lv_iload_n hx hb dX12_go_183 rfl (lv_at hl 0 rfl) ?_
                refine va_put (D := (dC, dI)) (ci := 11) (v := .int (nI (B (tkq B g p)))) (ty := .int) (C := RX12) (T := TX12) (N := 47) hx hb hts ii_X12_go tyX12 tyX12_ok nmX12 hown hK hP (mD hN _ _ _ _) hS 0 rfl rfl 9 (by decide) (hts _ mm_X12_go_7) (fun _ hh => hh) rfl (by decide +kernel) rfl rfl (Nat.le_of_ble_eq_true rfl) dX12_go_184 (fun H locs hP _ hS => ?_)
                have hP : va_P (dC, dI) vwCl (mw ar cy (up2 st154 0 9 (nI (B (tkq B g p)))) sl2) H := hP
                obtain ⟨st155, est155⟩ : ∃ y, y = up2 st154 0 9 (nI (B (tkq B g p))) := ⟨_, rfl⟩
                have hG : MG [1, 2, 3, 6, 7, 8, 9, 10, 11, 12, 13, 14, 15, 20, 21, 22, 23] st st155 := by rw [est155]; exact hG.up (rz (by decide : mr 0 9 = 0)) (pn (by decide : pcl 0 9 = 0) (by decide))
                rw [← est155] at hP
                have hF : FM 1 st sl st155 sl2 := by rw [est155]; exact hF.up (by decide)
                refine lv_aload_n hx hb dX12_go_187 rfl (lv_at hl 1 rfl) ?_
                refine lv_dup hx hb dX12_go_188 rfl ?_
                refine va_get (D := (dC, dI)) (ci := 11) (v := .int (st155 0 5)) (C := RX12) (T := TX12) (N := 47) hx hb hts ii_X12_go hown hK hP 0 rfl rfl 5 (by decide) (hts _ mm_X12_go_1) (fun _ hh => hh) rfl dX12_go_189 ?_
                refine zz_top (v := (nI (tkq B g p))) (by show st155 0 5 = _; rw [est155, up2_ne (r := 0) (k := 9) (a := 0) (j := 5) _ _ (by omega), est154, up2_ne (r := 0) (k := 7) (a := 0) (j := 5) _ _ (by omega), est10, up2_ne (r := 0) (k := 6) (a := 0) (j := 5) _ _ (by omega), hv9_0]) ?_
                refine lv_iconst (v := 1) hx hb dX12_go_192 (by decide) ?_
                refine lv_iadd hx hb dX12_go_193 ?_
                refine zz_top (v := nI ((tkq B g p) + 1)) (nI_add (tkq B g p) 1) ?_
                refine va_put (D := (dC, dI)) (ci := 11) (v := .int (nI ((tkq B g p) + 1))) (ty := .int) (C := RX12) (T := TX12) (N := 47) hx hb hts ii_X12_go tyX12 tyX12_ok nmX12 hown hK hP (mD hN _ _ _ _) hS 0 rfl rfl 5 (by decide) (hts _ mm_X12_go_1) (fun _ hh => hh) rfl (by decide +kernel) rfl rfl (Nat.le_of_ble_eq_true rfl) dX12_go_194 (fun H locs hP _ hS => ?_)
                have hP : va_P (dC, dI) vwCl (mw ar cy (up2 st155 0 5 (nI ((tkq B g p) + 1))) sl2) H := hP
                obtain ⟨st156, est156⟩ : ∃ y, y = up2 st155 0 5 (nI ((tkq B g p) + 1)) := ⟨_, rfl⟩
                have hG : MG [1, 2, 3, 6, 7, 8, 9, 10, 11, 12, 13, 14, 15, 20, 21, 22, 23] st st156 := by rw [est156]; exact hG.up (rn (n := ((tkq B g p) + 1)) (by decide : mr 0 5 = 941) (by omega)) (pn (by decide : pcl 0 5 = 4) (by decide))
                rw [← est156] at hP
                have hF : FM 1 st sl st156 sl2 := by rw [est156]; exact hF.up (by decide)
                exact W.vret hx hb hr (fun t ht hW => ⟨⟨(st156, sl2), rfl, ⟨hG, hF, TM.sign hpg hv12_0 (by omega) (fun hh => by have h3 : (97 ≤ B (tkq B g p) ∧ B (tkq B g p) ≤ 122) ∨ (48 ≤ B (tkq B g p) ∧ B (tkq B g p) ≤ 57) := hh; omega) 4 (by show (4 = 4 ∧ (B (tkq B g p) = 59 ∨ B (tkq B g p) = 60 ∨ B (tkq B g p) = 61 ∨ B (tkq B g p) = 62 ∨ B (tkq B g p) = 40 ∨ B (tkq B g p) = 41)) ∨ (4 = 1 ∧ ¬ (B (tkq B g p) = 59 ∨ B (tkq B g p) = 60 ∨ B (tkq B g p) = 61 ∨ B (tkq B g p) = 62 ∨ B (tkq B g p) = 40 ∨ B (tkq B g p) = 41)); omega) (by show st156 0 5 = _; rw [est156, up2_same]) (by show st156 0 6 = _; rw [est156, up2_ne (r := 0) (k := 5) (a := 0) (j := 6) _ _ (by omega), est155, up2_ne (r := 0) (k := 9) (a := 0) (j := 6) _ _ (by omega), est154, up2_ne (r := 0) (k := 7) (a := 0) (j := 6) _ _ (by omega), est10, up2_same]) (by show st156 0 7 = _; rw [est156, up2_ne (r := 0) (k := 5) (a := 0) (j := 7) _ _ (by omega), est155, up2_ne (r := 0) (k := 9) (a := 0) (j := 7) _ _ (by omega), est154, up2_same]; rfl) (by show st156 0 9 = _; rw [est156, up2_ne (r := 0) (k := 5) (a := 0) (j := 9) _ _ (by omega), est155, up2_same])⟩, mB.of ht hP⟩, hS.F ht⟩) hS.2.2 dX12_go_197
              · have c35 : ¬ (B (tkq B g p)) = 60 := fun hh => c35 ((nI_eq (a := (B (tkq B g p))) (b := 60) (by omega) (by omega)).mpr hh)
                refine lv_iload_n hx hb dX12_go_150 rfl (lv_at hl 0 rfl) ?_
                refine lv_bipush (v := 61) hx hb dX12_go_151 (by decide) ?_
                refine lv_icmp_eq (tgt := 174) hx hb dX12_go_153 (by decide) (fun c36 => ?_) (fun c36 => ?_)
                · have c36 : (B (tkq B g p)) = 61 := (nI_eq (a := (B (tkq B g p))) (b := 61) (by omega) (by omega)).mp c36
                  refine lv_iconst (v := 4) hx hb dX12_go_174 (by decide) ?_
                  refine lv_goto (tgt := 179) hx hb dX12_go_175 (by decide) ?_
                  refine va_put (D := (dC, dI)) (ci := 11) (v := .int 4) (ty := .int) (C := RX12) (T := TX12) (N := 47) hx hb hts ii_X12_go tyX12 tyX12_ok nmX12 hown hK hP (mD hN _ _ _ _) hS 0 rfl rfl 7 (by decide) (hts _ mm_X12_go_6) (fun _ hh => hh) rfl (by decide +kernel) rfl rfl (Nat.le_of_ble_eq_true rfl) dX12_go_179 (fun H locs hP _ hS => ?_)
                  have hP : va_P (dC, dI) vwCl (mw ar cy (up2 st10 0 7 4) sl2) H := hP
                  obtain ⟨st157, est157⟩ : ∃ y, y = up2 st10 0 7 4 := ⟨_, rfl⟩
                  have hG : MG [1, 2, 3, 6, 7, 8, 9, 10, 11, 12, 13, 14, 15, 20, 21, 22, 23] st st157 := by rw [est157]; exact hG.up (rz (by decide : mr 0 7 = 0)) (pn (by decide : pcl 0 7 = 5) (by decide))
                  rw [← est157] at hP
                  have hF : FM 1 st sl st157 sl2 := by rw [est157]; exact hF.up (by decide)
                  refine lv_aload_n hx hb dX12_go_182 rfl (lv_at hl 1 rfl) ?_
                  refine lv_iload_n hx hb dX12_go_183 rfl (lv_at hl 0 rfl) ?_
                  refine va_put (D := (dC, dI)) (ci := 11) (v := .int (nI (B (tkq B g p)))) (ty := .int) (C := RX12) (T := TX12) (N := 47) hx hb hts ii_X12_go tyX12 tyX12_ok nmX12 hown hK hP (mD hN _ _ _ _) hS 0 rfl rfl 9 (by decide) (hts _ mm_X12_go_7) (fun _ hh => hh) rfl (by decide +kernel) rfl rfl (Nat.le_of_ble_eq_true rfl) dX12_go_184 (fun H locs hP _ hS => ?_)
                  have hP : va_P (dC, dI) vwCl (mw ar cy (up2 st157 0 9 (nI (B (tkq B g p)))) sl2) H := hP
                  obtain ⟨st158, est158⟩ : ∃ y, y = up2 st157 0 9 (nI (B (tkq B g p))) := ⟨_, rfl⟩
                  have hG : MG [1, 2, 3, 6, 7, 8, 9, 10, 11, 12, 13, 14, 15, 20, 21, 22, 23] st st158 := by rw [est158]; exact hG.up (rz (by decide : mr 0 9 = 0)) (pn (by decide : pcl 0 9 = 0) (by decide))
                  rw [← est158] at hP
                  have hF : FM 1 st sl st158 sl2 := by rw [est158]; exact hF.up (by decide)
                  refine lv_aload_n hx hb dX12_go_187 rfl (lv_at hl 1 rfl) ?_
                  refine lv_dup hx hb dX12_go_188 rfl ?_
                  refine va_get (D := (dC, dI)) (ci := 11) (v := .int (st158 0 5)) (C := RX12) (T := TX12) (N := 47) hx hb hts ii_X12_go hown hK hP 0 rfl rfl 5 (by decide) (hts _ mm_X12_go_1) (fun _ hh => hh) rfl dX12_go_189 ?_
                  refine zz_top (v := (nI (tkq B g p))) (by show st158 0 5 = _; rw [est158, up2_ne (r := 0) (k := 9) (a := 0) (j := 5) _ _ (by omega), est157, up2_ne (r := 0) (k := 7) (a := 0) (j := 5) _ _ (by omega), est10, up2_ne (r := 0) (k := 6) (a := 0) (j := 5) _ _ (by omega), hv9_0]) ?_
                  refine lv_iconst (v := 1) hx hb dX12_go_192 (by decide) ?_
                  refine lv_iadd hx hb dX12_go_193 ?_
                  refine zz_top (v := nI ((tkq B g p) + 1)) (nI_add (tkq B g p) 1) ?_
                  refine va_put (D := (dC, dI)) (ci := 11) (v := .int (nI ((tkq B g p) + 1))) (ty := .int) (C := RX12) (T := TX12) (N := 47) hx hb hts ii_X12_go tyX12 tyX12_ok nmX12 hown hK hP (mD hN _ _ _ _) hS 0 rfl rfl 5 (by decide) (hts _ mm_X12_go_1) (fun _ hh => hh) rfl (by decide +kernel) rfl rfl (Nat.le_of_ble_eq_true rfl) dX12_go_194 (fun H locs hP _ hS => ?_)
                  have hP : va_P (dC, dI) vwCl (mw ar cy (up2 st158 0 5 (nI ((tkq B g p) + 1))) sl2) H := hP
                  obtain ⟨st159, est159⟩ : ∃ y, y = up2 st158 0 5 (nI ((tkq B g p) + 1)) := ⟨_, rfl⟩
                  have hG : MG [1, 2, 3, 6, 7, 8, 9, 10, 11, 12, 13, 14, 15, 20, 21, 22, 23] st st159 := by rw [est159]; exact hG.up (rn (n := ((tkq B g p) + 1)) (by decide : mr 0 5 = 941) (by omega)) (pn (by decide : pcl 0 5 = 4) (by decide))
                  rw [← est159] at hP
                  have hF : FM 1 st sl st159 sl2 := by rw [est159]; exact hF.up (by decide)
                  exact W.vret hx hb hr (fun t ht hW => ⟨⟨(st159, sl2), rfl, ⟨hG, hF, TM.sign hpg hv12_0 (by omega) (fun hh => by have h3 : (97 ≤ B (tkq B g p) ∧ B (tkq B g p) ≤ 122) ∨ (48 ≤ B (tkq B g p) ∧ B (tkq B g p) ≤ 57) := hh; omega) 4 (by show (4 = 4 ∧ (B (tkq B g p) = 59 ∨ B (tkq B g p) = 60 ∨ B (tkq B g p) = 61 ∨ B (tkq B g p) = 62 ∨ B (tkq B g p) = 40 ∨ B (tkq B g p) = 41)) ∨ (4 = 1 ∧ ¬ (B (tkq B g p) = 59 ∨ B (tkq B g p) = 60 ∨ B (tkq B g p) = 61 ∨ B (tkq B g p) = 62 ∨ B (tkq B g p) = 40 ∨ B (tkq B g p) = 41)); omega) (by show st159 0 5 = _; rw [est159, up2_same]) (by show st159 0 6 = _; rw [est159, up2_ne (r := 0) (k := 5) (a := 0) (j := 6) _ _ (by omega), est158, up2_ne (r := 0) (k := 9) (a := 0) (j := 6) _ _ (by omega), est157, up2_ne (r := 0) (k := 7) (a := 0) (j := 6) _ _ (by omega), est10, up2_same]) (by show st159 0 7 = _; rw [est159, up2_ne (r := 0) (k := 5) (a := 0) (j := 7) _ _ (by omega), est158, up2_ne (r := 0) (k := 9) (a := 0) (j := 7) _ _ (by omega), est157, up2_same]; rfl) (by show st159 0 9 = _; rw [est159, up2_ne (r := 0) (k := 5) (a := 0) (j := 9) _ _ (by omega), est158, up2_same])⟩, mB.of ht hP⟩, hS.F ht⟩) hS.2.2 dX12_go_197
                · have c36 : ¬ (B (tkq B g p)) = 61 := fun hh => c36 ((nI_eq (a := (B (tkq B g p))) (b := 61) (by omega) (by omega)).mpr hh)
                  refine lv_iload_n hx hb dX12_go_156 rfl (lv_at hl 0 rfl) ?_
                  refine lv_bipush (v := 62) hx hb dX12_go_157 (by decide) ?_
                  refine lv_icmp_eq (tgt := 174) hx hb dX12_go_159 (by decide) (fun c37 => ?_) (fun c37 => ?_)
                  · have c37 : (B (tkq B g p)) = 62 := (nI_eq (a := (B (tkq B g p))) (b := 62) (by omega) (by omega)).mp c37
                    refine lv_iconst (v := 4) hx hb dX12_go_174 (by decide) ?_
                    refine lv_goto (tgt := 179) hx hb dX12_go_175 (by decide) ?_
                    refine va_put (D := (dC, dI)) (ci := 11) (v := .int 4) (ty := .int) (C := RX12) (T := TX12) (N := 47) hx hb hts ii_X12_go tyX12 tyX12_ok nmX12 hown hK hP (mD hN _ _ _ _) hS 0 rfl rfl 7 (by decide) (hts _ mm_X12_go_6) (fun _ hh => hh) rfl (by decide +kernel) rfl rfl (Nat.le_of_ble_eq_true rfl) dX12_go_179 (fun H locs hP _ hS => ?_)
                    have hP : va_P (dC, dI) vwCl (mw ar cy (up2 st10 0 7 4) sl2) H := hP
                    obtain ⟨st160, est160⟩ : ∃ y, y = up2 st10 0 7 4 := ⟨_, rfl⟩
                    have hG : MG [1, 2, 3, 6, 7, 8, 9, 10, 11, 12, 13, 14, 15, 20, 21, 22, 23] st st160 := by rw [est160]; exact hG.up (rz (by decide : mr 0 7 = 0)) (pn (by decide : pcl 0 7 = 5) (by decide))
                    rw [← est160] at hP
                    have hF : FM 1 st sl st160 sl2 := by rw [est160]; exact hF.up (by decide)
                    refine lv_aload_n hx hb dX12_go_182 rfl (lv_at hl 1 rfl) ?_
                    refine lv_iload_n hx hb dX12_go_183 rfl (lv_at hl 0 rfl) ?_
                    refine va_put (D := (dC, dI)) (ci := 11) (v := .int (nI (B (tkq B g p)))) (ty := .int) (C := RX12) (T := TX12) (N := 47) hx hb hts ii_X12_go tyX12 tyX12_ok nmX12 hown hK hP (mD hN _ _ _ _) hS 0 rfl rfl 9 (by decide) (hts _ mm_X12_go_7) (fun _ hh => hh) rfl (by decide +kernel) rfl rfl (Nat.le_of_ble_eq_true rfl) dX12_go_184 (fun H locs hP _ hS => ?_)
                    have hP : va_P (dC, dI) vwCl (mw ar cy (up2 st160 0 9 (nI (B (tkq B g p)))) sl2) H := hP
                    obtain ⟨st161, est161⟩ : ∃ y, y = up2 st160 0 9 (nI (B (tkq B g p))) := ⟨_, rfl⟩
                    have hG : MG [1, 2, 3, 6, 7, 8, 9, 10, 11, 12, 13, 14, 15, 20, 21, 22, 23] st st161 := by rw [est161]; exact hG.up (rz (by decide : mr 0 9 = 0)) (pn (by decide : pcl 0 9 = 0) (by decide))
                    rw [← est161] at hP
                    have hF : FM 1 st sl st161 sl2 := by rw [est161]; exact hF.up (by decide)
                    refine lv_aload_n hx hb dX12_go_187 rfl (lv_at hl 1 rfl) ?_
                    refine lv_dup hx hb dX12_go_188 rfl ?_
                    refine va_get (D := (dC, dI)) (ci := 11) (v := .int (st161 0 5)) (C := RX12) (T := TX12) (N := 47) hx hb hts ii_X12_go hown hK hP 0 rfl rfl 5 (by decide) (hts _ mm_X12_go_1) (fun _ hh => hh) rfl dX12_go_189 ?_
                    refine zz_top (v := (nI (tkq B g p))) (by show st161 0 5 = _; rw [est161, up2_ne (r := 0) (k := 9) (a := 0) (j := 5) _ _ (by omega), est160, up2_ne (r := 0) (k := 7) (a := 0) (j := 5) _ _ (by omega), est10, up2_ne (r := 0) (k := 6) (a := 0) (j := 5) _ _ (by omega), hv9_0]) ?_
                    refine lv_iconst (v := 1) hx hb dX12_go_192 (by decide) ?_
                    refine lv_iadd hx hb dX12_go_193 ?_
                    refine zz_top (v := nI ((tkq B g p) + 1)) (nI_add (tkq B g p) 1) ?_
                    refine va_put (D := (dC, dI)) (ci := 11) (v := .int (nI ((tkq B g p) + 1))) (ty := .int) (C := RX12) (T := TX12) (N := 47) hx hb hts ii_X12_go tyX12 tyX12_ok nmX12 hown hK hP (mD hN _ _ _ _) hS 0 rfl rfl 5 (by decide) (hts _ mm_X12_go_1) (fun _ hh => hh) rfl (by decide +kernel) rfl rfl (Nat.le_of_ble_eq_true rfl) dX12_go_194 (fun H locs hP _ hS => ?_)
                    have hP : va_P (dC, dI) vwCl (mw ar cy (up2 st161 0 5 (nI ((tkq B g p) + 1))) sl2) H := hP
                    obtain ⟨st162, est162⟩ : ∃ y, y = up2 st161 0 5 (nI ((tkq B g p) + 1)) := ⟨_, rfl⟩
                    have hG : MG [1, 2, 3, 6, 7, 8, 9, 10, 11, 12, 13, 14, 15, 20, 21, 22, 23] st st162 := by rw [est162]; exact hG.up (rn (n := ((tkq B g p) + 1)) (by decide : mr 0 5 = 941) (by omega)) (pn (by decide : pcl 0 5 = 4) (by decide))
                    rw [← est162] at hP
                    have hF : FM 1 st sl st162 sl2 := by rw [est162]; exact hF.up (by decide)
                    exact W.vret hx hb hr (fun t ht hW => ⟨⟨(st162, sl2), rfl, ⟨hG, hF, TM.sign hpg hv12_0 (by omega) (fun hh => by have h3 : (97 ≤ B (tkq B g p) ∧ B (tkq B g p) ≤ 122) ∨ (48 ≤ B (tkq B g p) ∧ B (tkq B g p) ≤ 57) := hh; omega) 4 (by show (4 = 4 ∧ (B (tkq B g p) = 59 ∨ B (tkq B g p) = 60 ∨ B (tkq B g p) = 61 ∨ B (tkq B g p) = 62 ∨ B (tkq B g p) = 40 ∨ B (tkq B g p) = 41)) ∨ (4 = 1 ∧ ¬ (B (tkq B g p) = 59 ∨ B (tkq B g p) = 60 ∨ B (tkq B g p) = 61 ∨ B (tkq B g p) = 62 ∨ B (tkq B g p) = 40 ∨ B (tkq B g p) = 41)); omega) (by show st162 0 5 = _; rw [est162, up2_same]) (by show st162 0 6 = _; rw [est162, up2_ne (r := 0) (k := 5) (a := 0) (j := 6) _ _ (by omega), est161, up2_ne (r := 0) (k := 9) (a := 0) (j := 6) _ _ (by omega), est160, up2_ne (r := 0) (k := 7) (a := 0) (j := 6) _ _ (by omega), est10, up2_same]) (by show st162 0 7 = _; rw [est162, up2_ne (r := 0) (k := 5) (a := 0) (j := 7) _ _ (by omega), est161, up2_ne (r := 0) (k := 9) (a := 0) (j := 7) _ _ (by omega), est160, up2_same]; rfl) (by show st162 0 9 = _; rw [est162, up2_ne (r := 0) (k := 5) (a := 0) (j := 9) _ _ (by omega), est161, up2_same])⟩, mB.of ht hP⟩, hS.F ht⟩) hS.2.2 dX12_go_197
                  · have c37 : ¬ (B (tkq B g p)) = 62 := fun hh => c37 ((nI_eq (a := (B (tkq B g p))) (b := 62) (by omega) (by omega)).mpr hh)
                    refine lv_iload_n hx hb dX12_go_162 rfl (lv_at hl 0 rfl) ?_
                    refine lv_bipush (v := 40) hx hb dX12_go_163 (by decide) ?_
                    refine lv_icmp_eq (tgt := 174) hx hb dX12_go_165 (by decide) (fun c38 => ?_) (fun c38 => ?_)
                    · have c38 : (B (tkq B g p)) = 40 := (nI_eq (a := (B (tkq B g p))) (b := 40) (by omega) (by omega)).mp c38
                      refine lv_iconst (v := 4) hx hb dX12_go_174 (by decide) ?_
                      refine lv_goto (tgt := 179) hx hb dX12_go_175 (by decide) ?_
                      refine va_put (D := (dC, dI)) (ci := 11) (v := .int 4) (ty := .int) (C := RX12) (T := TX12) (N := 47) hx hb hts ii_X12_go tyX12 tyX12_ok nmX12 hown hK hP (mD hN _ _ _ _) hS 0 rfl rfl 7 (by decide) (hts _ mm_X12_go_6) (fun _ hh => hh) rfl (by decide +kernel) rfl rfl (Nat.le_of_ble_eq_true rfl) dX12_go_179 (fun H locs hP _ hS => ?_)
                      have hP : va_P (dC, dI) vwCl (mw ar cy (up2 st10 0 7 4) sl2) H := hP
                      obtain ⟨st163, est163⟩ : ∃ y, y = up2 st10 0 7 4 := ⟨_, rfl⟩
                      have hG : MG [1, 2, 3, 6, 7, 8, 9, 10, 11, 12, 13, 14, 15, 20, 21, 22, 23] st st163 := by rw [est163]; exact hG.up (rz (by decide : mr 0 7 = 0)) (pn (by decide : pcl 0 7 = 5) (by decide))
                      rw [← est163] at hP
                      have hF : FM 1 st sl st163 sl2 := by rw [est163]; exact hF.up (by decide)
                      refine lv_aload_n hx hb dX12_go_182 rfl (lv_at hl 1 rfl) ?_
                      refine lv_iload_n hx hb dX12_go_183 rfl (lv_at hl 0 rfl) ?_
                      refine va_put (D := (dC, dI)) (ci := 11) (v := .int (nI (B (tkq B g p)))) (ty := .int) (C := RX12) (T := TX12) (N := 47) hx hb hts ii_X12_go tyX12 tyX12_ok nmX12 hown hK hP (mD hN _ _ _ _) hS 0 rfl rfl 9 (by decide) (hts _ mm_X12_go_7) (fun _ hh => hh) rfl (by decide +kernel) rfl rfl (Nat.le_of_ble_eq_true rfl) dX12_go_184 (fun H locs hP _ hS => ?_)
                      have hP : va_P (dC, dI) vwCl (mw ar cy (up2 st163 0 9 (nI (B (tkq B g p)))) sl2) H := hP
                      obtain ⟨st164, est164⟩ : ∃ y, y = up2 st163 0 9 (nI (B (tkq B g p))) := ⟨_, rfl⟩
                      have hG : MG [1, 2, 3, 6, 7, 8, 9, 10, 11, 12, 13, 14, 15, 20, 21, 22, 23] st st164 := by rw [est164]; exact hG.up (rz (by decide : mr 0 9 = 0)) (pn (by decide : pcl 0 9 = 0) (by decide))
                      rw [← est164] at hP
                      have hF : FM 1 st sl st164 sl2 := by rw [est164]; exact hF.up (by decide)
                      refine lv_aload_n hx hb dX12_go_187 rfl (lv_at hl 1 rfl) ?_
                      refine lv_dup hx hb dX12_go_188 rfl ?_
                      refine va_get (D := (dC, dI)) (ci := 11) (v := .int (st164 0 5)) (C := RX12) (T := TX12) (N := 47) hx hb hts ii_X12_go hown hK hP 0 rfl rfl 5 (by decide) (hts _ mm_X12_go_1) (fun _ hh => hh) rfl dX12_go_189 ?_
                      refine zz_top (v := (nI (tkq B g p))) (by show st164 0 5 = _; rw [est164, up2_ne (r := 0) (k := 9) (a := 0) (j := 5) _ _ (by omega), est163, up2_ne (r := 0) (k := 7) (a := 0) (j := 5) _ _ (by omega), est10, up2_ne (r := 0) (k := 6) (a := 0) (j := 5) _ _ (by omega), hv9_0]) ?_
                      refine lv_iconst (v := 1) hx hb dX12_go_192 (by decide) ?_
                      refine lv_iadd hx hb dX12_go_193 ?_
                      refine zz_top (v := nI ((tkq B g p) + 1)) (nI_add (tkq B g p) 1) ?_
                      refine va_put (D := (dC, dI)) (ci := 11) (v := .int (nI ((tkq B g p) + 1))) (ty := .int) (C := RX12) (T := TX12) (N := 47) hx hb hts ii_X12_go tyX12 tyX12_ok nmX12 hown hK hP (mD hN _ _ _ _) hS 0 rfl rfl 5 (by decide) (hts _ mm_X12_go_1) (fun _ hh => hh) rfl (by decide +kernel) rfl rfl (Nat.le_of_ble_eq_true rfl) dX12_go_194 (fun H locs hP _ hS => ?_)
                      have hP : va_P (dC, dI) vwCl (mw ar cy (up2 st164 0 5 (nI ((tkq B g p) + 1))) sl2) H := hP
                      obtain ⟨st165, est165⟩ : ∃ y, y = up2 st164 0 5 (nI ((tkq B g p) + 1)) := ⟨_, rfl⟩
                      have hG : MG [1, 2, 3, 6, 7, 8, 9, 10, 11, 12, 13, 14, 15, 20, 21, 22, 23] st st165 := by rw [est165]; exact hG.up (rn (n := ((tkq B g p) + 1)) (by decide : mr 0 5 = 941) (by omega)) (pn (by decide : pcl 0 5 = 4) (by decide))
                      rw [← est165] at hP
                      have hF : FM 1 st sl st165 sl2 := by rw [est165]; exact hF.up (by decide)
                      exact W.vret hx hb hr (fun t ht hW => ⟨⟨(st165, sl2), rfl, ⟨hG, hF, TM.sign hpg hv12_0 (by omega) (fun hh => by have h3 : (97 ≤ B (tkq B g p) ∧ B (tkq B g p) ≤ 122) ∨ (48 ≤ B (tkq B g p) ∧ B (tkq B g p) ≤ 57) := hh; omega) 4 (by show (4 = 4 ∧ (B (tkq B g p) = 59 ∨ B (tkq B g p) = 60 ∨ B (tkq B g p) = 61 ∨ B (tkq B g p) = 62 ∨ B (tkq B g p) = 40 ∨ B (tkq B g p) = 41)) ∨ (4 = 1 ∧ ¬ (B (tkq B g p) = 59 ∨ B (tkq B g p) = 60 ∨ B (tkq B g p) = 61 ∨ B (tkq B g p) = 62 ∨ B (tkq B g p) = 40 ∨ B (tkq B g p) = 41)); omega) (by show st165 0 5 = _; rw [est165, up2_same]) (by show st165 0 6 = _; rw [est165, up2_ne (r := 0) (k := 5) (a := 0) (j := 6) _ _ (by omega), est164, up2_ne (r := 0) (k := 9) (a := 0) (j := 6) _ _ (by omega), est163, up2_ne (r := 0) (k := 7) (a := 0) (j := 6) _ _ (by omega), est10, up2_same]) (by show st165 0 7 = _; rw [est165, up2_ne (r := 0) (k := 5) (a := 0) (j := 7) _ _ (by omega), est164, up2_ne (r := 0) (k := 9) (a := 0) (j := 7) _ _ (by omega), est163, up2_same]; rfl) (by show st165 0 9 = _; rw [est165, up2_ne (r := 0) (k := 5) (a := 0) (j := 9) _ _ (by omega), est164, up2_same])⟩, mB.of ht hP⟩, hS.F ht⟩) hS.2.2 dX12_go_197
                    · have c38 : ¬ (B (tkq B g p)) = 40 := fun hh => c38 ((nI_eq (a := (B (tkq B g p))) (b := 40) (by omega) (by omega)).mpr hh)
                      refine lv_iload_n hx hb dX12_go_168 rfl (lv_at hl 0 rfl) ?_
                      refine lv_bipush (v := 41) hx hb dX12_go_169 (by decide) ?_
                      refine lv_icmp_ne (tgt := 178) hx hb dX12_go_171 (by decide) (fun c39 => ?_) (fun c39 => ?_)
                      · have c39 : ¬ (B (tkq B g p)) = 41 := fun hh => c39 ((nI_eq (a := (B (tkq B g p))) (b := 41) (by omega) (by omega)).mpr hh)
                        refine lv_iconst (v := 1) hx hb dX12_go_178 (by decide) ?_
                        refine va_put (D := (dC, dI)) (ci := 11) (v := .int 1) (ty := .int) (C := RX12) (T := TX12) (N := 47) hx hb hts ii_X12_go tyX12 tyX12_ok nmX12 hown hK hP (mD hN _ _ _ _) hS 0 rfl rfl 7 (by decide) (hts _ mm_X12_go_6) (fun _ hh => hh) rfl (by decide +kernel) rfl rfl (Nat.le_of_ble_eq_true rfl) dX12_go_179 (fun H locs hP _ hS => ?_)
                        have hP : va_P (dC, dI) vwCl (mw ar cy (up2 st10 0 7 1) sl2) H := hP
                        obtain ⟨st166, est166⟩ : ∃ y, y = up2 st10 0 7 1 := ⟨_, rfl⟩
                        have hG : MG [1, 2, 3, 6, 7, 8, 9, 10, 11, 12, 13, 14, 15, 20, 21, 22, 23] st st166 := by rw [est166]; exact hG.up (rz (by decide : mr 0 7 = 0)) (pn (by decide : pcl 0 7 = 5) (by decide))
                        rw [← est166] at hP
                        have hF : FM 1 st sl st166 sl2 := by rw [est166]; exact hF.up (by decide)
                        refine lv_aload_n hx hb dX12_go_182 rfl (lv_at hl 1 rfl) ?_
                        refine lv_iload_n hx hb dX12_go_183 rfl (lv_at hl 0 rfl) ?_
                        refine va_put (D := (dC, dI)) (ci := 11) (v := .int (nI (B (tkq B g p)))) (ty := .int) (C := RX12) (T := TX12) (N := 47) hx hb hts ii_X12_go tyX12 tyX12_ok nmX12 hown hK hP (mD hN _ _ _ _) hS 0 rfl rfl 9 (by decide) (hts _ mm_X12_go_7) (fun _ hh => hh) rfl (by decide +kernel) rfl rfl (Nat.le_of_ble_eq_true rfl) dX12_go_184 (fun H locs hP _ hS => ?_)
                        have hP : va_P (dC, dI) vwCl (mw ar cy (up2 st166 0 9 (nI (B (tkq B g p)))) sl2) H := hP
                        obtain ⟨st167, est167⟩ : ∃ y, y = up2 st166 0 9 (nI (B (tkq B g p))) := ⟨_, rfl⟩
                        have hG : MG [1, 2, 3, 6, 7, 8, 9, 10, 11, 12, 13, 14, 15, 20, 21, 22, 23] st st167 := by rw [est167]; exact hG.up (rz (by decide : mr 0 9 = 0)) (pn (by decide : pcl 0 9 = 0) (by decide))
                        rw [← est167] at hP
                        have hF : FM 1 st sl st167 sl2 := by rw [est167]; exact hF.up (by decide)
                        refine lv_aload_n hx hb dX12_go_187 rfl (lv_at hl 1 rfl) ?_
                        refine lv_dup hx hb dX12_go_188 rfl ?_
                        refine va_get (D := (dC, dI)) (ci := 11) (v := .int (st167 0 5)) (C := RX12) (T := TX12) (N := 47) hx hb hts ii_X12_go hown hK hP 0 rfl rfl 5 (by decide) (hts _ mm_X12_go_1) (fun _ hh => hh) rfl dX12_go_189 ?_
                        refine zz_top (v := (nI (tkq B g p))) (by show st167 0 5 = _; rw [est167, up2_ne (r := 0) (k := 9) (a := 0) (j := 5) _ _ (by omega), est166, up2_ne (r := 0) (k := 7) (a := 0) (j := 5) _ _ (by omega), est10, up2_ne (r := 0) (k := 6) (a := 0) (j := 5) _ _ (by omega), hv9_0]) ?_
                        refine lv_iconst (v := 1) hx hb dX12_go_192 (by decide) ?_
                        refine lv_iadd hx hb dX12_go_193 ?_
                        refine zz_top (v := nI ((tkq B g p) + 1)) (nI_add (tkq B g p) 1) ?_
                        refine va_put (D := (dC, dI)) (ci := 11) (v := .int (nI ((tkq B g p) + 1))) (ty := .int) (C := RX12) (T := TX12) (N := 47) hx hb hts ii_X12_go tyX12 tyX12_ok nmX12 hown hK hP (mD hN _ _ _ _) hS 0 rfl rfl 5 (by decide) (hts _ mm_X12_go_1) (fun _ hh => hh) rfl (by decide +kernel) rfl rfl (Nat.le_of_ble_eq_true rfl) dX12_go_194 (fun H locs hP _ hS => ?_)
                        have hP : va_P (dC, dI) vwCl (mw ar cy (up2 st167 0 5 (nI ((tkq B g p) + 1))) sl2) H := hP
                        obtain ⟨st168, est168⟩ : ∃ y, y = up2 st167 0 5 (nI ((tkq B g p) + 1)) := ⟨_, rfl⟩
                        have hG : MG [1, 2, 3, 6, 7, 8, 9, 10, 11, 12, 13, 14, 15, 20, 21, 22, 23] st st168 := by rw [est168]; exact hG.up (rn (n := ((tkq B g p) + 1)) (by decide : mr 0 5 = 941) (by omega)) (pn (by decide : pcl 0 5 = 4) (by decide))
                        rw [← est168] at hP
                        have hF : FM 1 st sl st168 sl2 := by rw [est168]; exact hF.up (by decide)
                        exact W.vret hx hb hr (fun t ht hW => ⟨⟨(st168, sl2), rfl, ⟨hG, hF, TM.sign hpg hv12_0 (by omega) (fun hh => by have h3 : (97 ≤ B (tkq B g p) ∧ B (tkq B g p) ≤ 122) ∨ (48 ≤ B (tkq B g p) ∧ B (tkq B g p) ≤ 57) := hh; omega) 1 (by show (1 = 4 ∧ (B (tkq B g p) = 59 ∨ B (tkq B g p) = 60 ∨ B (tkq B g p) = 61 ∨ B (tkq B g p) = 62 ∨ B (tkq B g p) = 40 ∨ B (tkq B g p) = 41)) ∨ (1 = 1 ∧ ¬ (B (tkq B g p) = 59 ∨ B (tkq B g p) = 60 ∨ B (tkq B g p) = 61 ∨ B (tkq B g p) = 62 ∨ B (tkq B g p) = 40 ∨ B (tkq B g p) = 41)); omega) (by show st168 0 5 = _; rw [est168, up2_same]) (by show st168 0 6 = _; rw [est168, up2_ne (r := 0) (k := 5) (a := 0) (j := 6) _ _ (by omega), est167, up2_ne (r := 0) (k := 9) (a := 0) (j := 6) _ _ (by omega), est166, up2_ne (r := 0) (k := 7) (a := 0) (j := 6) _ _ (by omega), est10, up2_same]) (by show st168 0 7 = _; rw [est168, up2_ne (r := 0) (k := 5) (a := 0) (j := 7) _ _ (by omega), est167, up2_ne (r := 0) (k := 9) (a := 0) (j := 7) _ _ (by omega), est166, up2_same]; rfl) (by show st168 0 9 = _; rw [est168, up2_ne (r := 0) (k := 5) (a := 0) (j := 9) _ _ (by omega), est167, up2_same])⟩, mB.of ht hP⟩, hS.F ht⟩) hS.2.2 dX12_go_197
                      · have c39 : (B (tkq B g p)) = 41 := (nI_eq (a := (B (tkq B g p))) (b := 41) (by omega) (by omega)).mp c39
                        refine lv_iconst (v := 4) hx hb dX12_go_174 (by decide) ?_
                        refine lv_goto (tgt := 179) hx hb dX12_go_175 (by decide) ?_
                        refine va_put (D := (dC, dI)) (ci := 11) (v := .int 4) (ty := .int) (C := RX12) (T := TX12) (N := 47) hx hb hts ii_X12_go tyX12 tyX12_ok nmX12 hown hK hP (mD hN _ _ _ _) hS 0 rfl rfl 7 (by decide) (hts _ mm_X12_go_6) (fun _ hh => hh) rfl (by decide +kernel) rfl rfl (Nat.le_of_ble_eq_true rfl) dX12_go_179 (fun H locs hP _ hS => ?_)
                        have hP : va_P (dC, dI) vwCl (mw ar cy (up2 st10 0 7 4) sl2) H := hP
                        obtain ⟨st169, est169⟩ : ∃ y, y = up2 st10 0 7 4 := ⟨_, rfl⟩
                        have hG : MG [1, 2, 3, 6, 7, 8, 9, 10, 11, 12, 13, 14, 15, 20, 21, 22, 23] st st169 := by rw [est169]; exact hG.up (rz (by decide : mr 0 7 = 0)) (pn (by decide : pcl 0 7 = 5) (by decide))
                        rw [← est169] at hP
                        have hF : FM 1 st sl st169 sl2 := by rw [est169]; exact hF.up (by decide)
                        refine lv_aload_n hx hb dX12_go_182 rfl (lv_at hl 1 rfl) ?_
                        refine lv_iload_n hx hb dX12_go_183 rfl (lv_at hl 0 rfl) ?_
                        refine va_put (D := (dC, dI)) (ci := 11) (v := .int (nI (B (tkq B g p)))) (ty := .int) (C := RX12) (T := TX12) (N := 47) hx hb hts ii_X12_go tyX12 tyX12_ok nmX12 hown hK hP (mD hN _ _ _ _) hS 0 rfl rfl 9 (by decide) (hts _ mm_X12_go_7) (fun _ hh => hh) rfl (by decide +kernel) rfl rfl (Nat.le_of_ble_eq_true rfl) dX12_go_184 (fun H locs hP _ hS => ?_)
                        have hP : va_P (dC, dI) vwCl (mw ar cy (up2 st169 0 9 (nI (B (tkq B g p)))) sl2) H := hP
                        obtain ⟨st170, est170⟩ : ∃ y, y = up2 st169 0 9 (nI (B (tkq B g p))) := ⟨_, rfl⟩
                        have hG : MG [1, 2, 3, 6, 7, 8, 9, 10, 11, 12, 13, 14, 15, 20, 21, 22, 23] st st170 := by rw [est170]; exact hG.up (rz (by decide : mr 0 9 = 0)) (pn (by decide : pcl 0 9 = 0) (by decide))
                        rw [← est170] at hP
                        have hF : FM 1 st sl st170 sl2 := by rw [est170]; exact hF.up (by decide)
                        refine lv_aload_n hx hb dX12_go_187 rfl (lv_at hl 1 rfl) ?_
                        refine lv_dup hx hb dX12_go_188 rfl ?_
                        refine va_get (D := (dC, dI)) (ci := 11) (v := .int (st170 0 5)) (C := RX12) (T := TX12) (N := 47) hx hb hts ii_X12_go hown hK hP 0 rfl rfl 5 (by decide) (hts _ mm_X12_go_1) (fun _ hh => hh) rfl dX12_go_189 ?_
                        refine zz_top (v := (nI (tkq B g p))) (by show st170 0 5 = _; rw [est170, up2_ne (r := 0) (k := 9) (a := 0) (j := 5) _ _ (by omega), est169, up2_ne (r := 0) (k := 7) (a := 0) (j := 5) _ _ (by omega), est10, up2_ne (r := 0) (k := 6) (a := 0) (j := 5) _ _ (by omega), hv9_0]) ?_
                        refine lv_iconst (v := 1) hx hb dX12_go_192 (by decide) ?_
                        refine lv_iadd hx hb dX12_go_193 ?_
                        refine zz_top (v := nI ((tkq B g p) + 1)) (nI_add (tkq B g p) 1) ?_
                        refine va_put (D := (dC, dI)) (ci := 11) (v := .int (nI ((tkq B g p) + 1))) (ty := .int) (C := RX12) (T := TX12) (N := 47) hx hb hts ii_X12_go tyX12 tyX12_ok nmX12 hown hK hP (mD hN _ _ _ _) hS 0 rfl rfl 5 (by decide) (hts _ mm_X12_go_1) (fun _ hh => hh) rfl (by decide +kernel) rfl rfl (Nat.le_of_ble_eq_true rfl) dX12_go_194 (fun H locs hP _ hS => ?_)
                        have hP : va_P (dC, dI) vwCl (mw ar cy (up2 st170 0 5 (nI ((tkq B g p) + 1))) sl2) H := hP
                        obtain ⟨st171, est171⟩ : ∃ y, y = up2 st170 0 5 (nI ((tkq B g p) + 1)) := ⟨_, rfl⟩
                        have hG : MG [1, 2, 3, 6, 7, 8, 9, 10, 11, 12, 13, 14, 15, 20, 21, 22, 23] st st171 := by rw [est171]; exact hG.up (rn (n := ((tkq B g p) + 1)) (by decide : mr 0 5 = 941) (by omega)) (pn (by decide : pcl 0 5 = 4) (by decide))
                        rw [← est171] at hP
                        have hF : FM 1 st sl st171 sl2 := by rw [est171]; exact hF.up (by decide)
                        exact W.vret hx hb hr (fun t ht hW => ⟨⟨(st171, sl2), rfl, ⟨hG, hF, TM.sign hpg hv12_0 (by omega) (fun hh => by have h3 : (97 ≤ B (tkq B g p) ∧ B (tkq B g p) ≤ 122) ∨ (48 ≤ B (tkq B g p) ∧ B (tkq B g p) ≤ 57) := hh; omega) 4 (by show (4 = 4 ∧ (B (tkq B g p) = 59 ∨ B (tkq B g p) = 60 ∨ B (tkq B g p) = 61 ∨ B (tkq B g p) = 62 ∨ B (tkq B g p) = 40 ∨ B (tkq B g p) = 41)) ∨ (4 = 1 ∧ ¬ (B (tkq B g p) = 59 ∨ B (tkq B g p) = 60 ∨ B (tkq B g p) = 61 ∨ B (tkq B g p) = 62 ∨ B (tkq B g p) = 40 ∨ B (tkq B g p) = 41)); omega) (by show st171 0 5 = _; rw [est171, up2_same]) (by show st171 0 6 = _; rw [est171, up2_ne (r := 0) (k := 5) (a := 0) (j := 6) _ _ (by omega), est170, up2_ne (r := 0) (k := 9) (a := 0) (j := 6) _ _ (by omega), est169, up2_ne (r := 0) (k := 7) (a := 0) (j := 6) _ _ (by omega), est10, up2_same]) (by show st171 0 7 = _; rw [est171, up2_ne (r := 0) (k := 5) (a := 0) (j := 7) _ _ (by omega), est170, up2_ne (r := 0) (k := 9) (a := 0) (j := 7) _ _ (by omega), est169, up2_same]; rfl) (by show st171 0 9 = _; rw [est171, up2_ne (r := 0) (k := 5) (a := 0) (j := 9) _ _ (by omega), est170, up2_same])⟩, mB.of ht hP⟩, hS.F ht⟩) hS.2.2 dX12_go_197
      · have c1 : ¬ (tkq B g p) < g := fun hh => c1 ((nI_ltI (a := (tkq B g p)) (b := g) (by omega) (by omega)).mpr hh)
        refine lv_aload_n hx hb dX12_go_107 rfl (lv_at hl 0 rfl) ?_
        refine lv_iconst (v := 0) hx hb dX12_go_108 (by decide) ?_
        refine va_put (D := (dC, dI)) (ci := 11) (v := .int 0) (ty := .int) (C := RX12) (T := TX12) (N := 47) hx hb hts ii_X12_go tyX12 tyX12_ok nmX12 hown hK hP (mD hN _ _ _ _) hS 0 rfl rfl 7 (by decide) (hts _ mm_X12_go_6) (fun _ hh => hh) rfl (by decide +kernel) rfl rfl (Nat.le_of_ble_eq_true rfl) dX12_go_109 (fun H locs hP _ hS => ?_)
        have hP : va_P (dC, dI) vwCl (mw ar cy (up2 st10 0 7 0) sl2) H := hP
        obtain ⟨st172, est172⟩ : ∃ y, y = up2 st10 0 7 0 := ⟨_, rfl⟩
        have hG : MG [1, 2, 3, 6, 7, 8, 9, 10, 11, 12, 13, 14, 15, 20, 21, 22, 23] st st172 := by rw [est172]; exact hG.up (rz (by decide : mr 0 7 = 0)) (pn (by decide : pcl 0 7 = 5) (by decide))
        rw [← est172] at hP
        have hF : FM 1 st sl st172 sl2 := by rw [est172]; exact hF.up (by decide)
        exact W.vret hx hb hr (fun t ht hW => ⟨⟨(st172, sl2), rfl, ⟨hG, hF, TM.stop hpg hv12_0 (by omega) (by show st172 0 5 = _; rw [est172, up2_ne (r := 0) (k := 7) (a := 0) (j := 5) _ _ (by omega), est10, up2_ne (r := 0) (k := 6) (a := 0) (j := 5) _ _ (by omega), hv9_0]) (by show st172 0 6 = _; rw [est172, up2_ne (r := 0) (k := 7) (a := 0) (j := 6) _ _ (by omega), est10, up2_same]) (by show st172 0 7 = _; rw [est172, up2_same]; rfl)⟩, mB.of ht hP⟩, hS.F ht⟩) hS.2.2 dX12_go_112
    refine lv_icmp_le (tgt := 96) hx hb dX12_go_68 (by decide) (fun c40 => ?_) (fun c40 => ?_)
    · have c40 : g ≤ m := (nI_leI (a := g) (b := m) (by omega) (by omega)).mp c40
      exact kj11 _ _ _ _ ⟨by omega, hP, hS, lv_sub hl [0] rfl, rfl⟩
    · have c40 : ¬ g ≤ m := fun hh => c40 ((nI_leI (a := g) (b := m) (by omega) (by omega)).mpr hh)
      refine lv_aload_n hx hb dX12_go_71 rfl (lv_at hl 0 rfl) ?_
      refine va_get (D := (dC, dI)) (ci := 11) (v := .int (st10 0 6)) (C := RX12) (T := TX12) (N := 47) hx hb hts ii_X12_go hown hK hP 0 rfl rfl 6 (by decide) (hts _ mm_X12_go_4) (fun _ hh => hh) rfl dX12_go_72 ?_
      refine zz_top (v := (nI (tkq B g p))) (by show st10 0 6 = _; rw [est10, up2_same]) ?_
      refine lv_aload_n hx hb dX12_go_75 rfl (lv_at hl 0 rfl) ?_
      refine va_get (D := (dC, dI)) (ci := 11) (v := .int (st10 0 4)) (C := RX12) (T := TX12) (N := 47) hx hb hts ii_X12_go hown hK hP 0 rfl rfl 4 (by decide) (hts _ mm_X12_go_5) (fun _ hh => hh) rfl dX12_go_76 ?_
      refine zz_top (v := (nI m)) (by show st10 0 4 = _; rw [(MBt.fr hB hF).2.1]) ?_
      refine lv_icmp_lt (tgt := 96) hx hb dX12_go_79 (by decide) (fun c41 => ?_) (fun c41 => ?_)
      · have c41 : (tkq B g p) < m := (nI_ltI (a := (tkq B g p)) (b := m) (by omega) (by omega)).mp c41
        exact kj11 _ _ _ _ ⟨by omega, hP, hS, lv_sub hl [0] rfl, rfl⟩
      · have c41 : ¬ (tkq B g p) < m := fun hh => c41 ((nI_ltI (a := (tkq B g p)) (b := m) (by omega) (by omega)).mpr hh)
        refine lv_aload_n hx hb dX12_go_82 rfl (lv_at hl 0 rfl) ?_
        refine lv_aload_n hx hb dX12_go_83 rfl (lv_at hl 0 rfl) ?_
        refine va_get (D := (dC, dI)) (ci := 11) (v := .int (st10 0 4)) (C := RX12) (T := TX12) (N := 47) hx hb hts ii_X12_go hown hK hP 0 rfl rfl 4 (by decide) (hts _ mm_X12_go_5) (fun _ hh => hh) rfl dX12_go_84 ?_
        refine zz_top (v := (nI m)) (by show st10 0 4 = _; rw [(MBt.fr hB hF).2.1]) ?_
        refine va_put (D := (dC, dI)) (ci := 11) (v := .int (nI m)) (ty := .int) (C := RX12) (T := TX12) (N := 47) hx hb hts ii_X12_go tyX12 tyX12_ok nmX12 hown hK hP (mD hN _ _ _ _) hS 0 rfl rfl 6 (by decide) (hts _ mm_X12_go_4) (fun _ hh => hh) rfl (by decide +kernel) rfl rfl (Nat.le_of_ble_eq_true rfl) dX12_go_87 (fun H locs hP _ hS => ?_)
        have hP : va_P (dC, dI) vwCl (mw ar cy (up2 st10 0 6 (nI m)) sl2) H := hP
        obtain ⟨st173, est173⟩ : ∃ y, y = up2 st10 0 6 (nI m) := ⟨_, rfl⟩
        have hG : MG [1, 2, 3, 6, 7, 8, 9, 10, 11, 12, 13, 14, 15, 20, 21, 22, 23] st st173 := by rw [est173]; exact hG.up (rz (by decide : mr 0 6 = 0)) (pn (by decide : pcl 0 6 = 17) (by decide))
        rw [← est173] at hP
        have hF : FM 1 st sl st173 sl2 := by rw [est173]; exact hF.up (by decide)
        refine lv_aload_n hx hb dX12_go_90 rfl (lv_at hl 0 rfl) ?_
        refine lv_iconst (v := 1) hx hb dX12_go_91 (by decide) ?_
        refine va_put (D := (dC, dI)) (ci := 11) (v := .int 1) (ty := .int) (C := RX12) (T := TX12) (N := 47) hx hb hts ii_X12_go tyX12 tyX12_ok nmX12 hown hK hP (mD hN _ _ _ _) hS 0 rfl rfl 7 (by decide) (hts _ mm_X12_go_6) (fun _ hh => hh) rfl (by decide +kernel) rfl rfl (Nat.le_of_ble_eq_true rfl) dX12_go_92 (fun H locs hP _ hS => ?_)
        have hP : va_P (dC, dI) vwCl (mw ar cy (up2 st173 0 7 1) sl2) H := hP
        obtain ⟨st174, est174⟩ : ∃ y, y = up2 st173 0 7 1 := ⟨_, rfl⟩
        have hG : MG [1, 2, 3, 6, 7, 8, 9, 10, 11, 12, 13, 14, 15, 20, 21, 22, 23] st st174 := by rw [est174]; exact hG.up (rz (by decide : mr 0 7 = 0)) (pn (by decide : pcl 0 7 = 5) (by decide))
        rw [← est174] at hP
        have hF : FM 1 st sl st174 sl2 := by rw [est174]; exact hF.up (by decide)
        exact W.vret hx hb hr (fun t ht hW => ⟨⟨(st174, sl2), rfl, ⟨hG, hF, TM.lim hpg (by omega) (by show st174 0 5 = _; rw [est174, up2_ne (r := 0) (k := 7) (a := 0) (j := 5) _ _ (by omega), est173, up2_ne (r := 0) (k := 6) (a := 0) (j := 5) _ _ (by omega), est10, up2_ne (r := 0) (k := 6) (a := 0) (j := 5) _ _ (by omega), hv9_0]) (by show st174 0 6 = _; rw [est174, up2_ne (r := 0) (k := 7) (a := 0) (j := 6) _ _ (by omega), est173, up2_same]) (by show st174 0 7 = _; rw [est174, up2_same]; rfl)⟩, mB.of ht hP⟩, hS.F ht⟩) hS.2.2 dX12_go_95
  refine lv_icmp_ge (tgt := 52) hx hb dX12_go_8 (by decide) (fun c42 => ?_) (fun c42 => ?_)
  · have c42 : g ≤ u3 := (nI_leI (a := g) (b := u3) (by omega) (by omega)).mp c42
    exact kj8 _ _ _ _ ⟨by rw [show (tkq B g p) = u3 from hv5_1.symm.trans (skp_n (fun hh => by have h1 := hh.1; have h2 : B u3 = 32 ∨ B u3 = 10 := hh.2; omega))]; exact eu3, hP, hS, lv_sub hl [0] rfl, rfl⟩
  · have c42 : ¬ g ≤ u3 := fun hh => c42 ((nI_leI (a := g) (b := u3) (by omega) (by omega)).mpr hh)
    refine lv_aload_n hx hb dX12_go_11 rfl (lv_at hl 0 rfl) ?_
    refine va_get (D := (dC, dI)) (ci := 11) (v := .ref (ar 1)) (C := RX12) (T := TX12) (N := 47) hx hb hts ii_X12_go hown hK hP 0 rfl rfl 1 (by decide) (hts _ mm_X12_go_3) (fun _ hh => hh) rfl dX12_go_12 ?_
    refine lv_aload_n hx hb dX12_go_15 rfl (lv_at hl 0 rfl) ?_
    refine va_get (D := (dC, dI)) (ci := 11) (v := .int (st1 0 5)) (C := RX12) (T := TX12) (N := 47) hx hb hts ii_X12_go hown hK hP 0 rfl rfl 5 (by decide) (hts _ mm_X12_go_1) (fun _ hh => hh) rfl dX12_go_16 ?_
    refine zz_top (v := (nI u3)) (by show st1 0 5 = _; rw [eu3]) ?_
    refine va_iald hx hb hK hP 1 0 rfl rfl (i := (nI u3)) (vp_in_nI (by omega) (by decide)) dX12_go_19 ?_
    refine zz_top (v := nI (B u3)) (by rw [nI_clamp (by omega)]; exact ((MBt.fr hB hF).2.2.2.2 u3 (by omega)).1) ?_
    have hq175 := (hB.2.2.2.2 u3 (by omega)).2
    refine lv_bipush (v := 32) hx hb dX12_go_20 (by decide) ?_
    refine lv_icmp_eq (tgt := 39) hx hb dX12_go_22 (by decide) (fun c43 => ?_) (fun c43 => ?_)
    · have c43 : (B u3) = 32 := (nI_eq (a := (B u3)) (b := 32) (by omega) (by omega)).mp c43
      refine lv_aload_n hx hb dX12_go_39 rfl (lv_at hl 0 rfl) ?_
      refine lv_dup hx hb dX12_go_40 rfl ?_
      refine va_get (D := (dC, dI)) (ci := 11) (v := .int (st1 0 5)) (C := RX12) (T := TX12) (N := 47) hx hb hts ii_X12_go hown hK hP 0 rfl rfl 5 (by decide) (hts _ mm_X12_go_1) (fun _ hh => hh) rfl dX12_go_41 ?_
      refine zz_top (v := (nI u3)) (by show st1 0 5 = _; rw [eu3]) ?_
      refine lv_iconst (v := 1) hx hb dX12_go_44 (by decide) ?_
      refine lv_iadd hx hb dX12_go_45 ?_
      refine zz_top (v := nI (u3 + 1)) (nI_add u3 1) ?_
      refine va_put (D := (dC, dI)) (ci := 11) (v := .int (nI (u3 + 1))) (ty := .int) (C := RX12) (T := TX12) (N := 47) hx hb hts ii_X12_go tyX12 tyX12_ok nmX12 hown hK hP (mD hN _ _ _ _) hS 0 rfl rfl 5 (by decide) (hts _ mm_X12_go_1) (fun _ hh => hh) rfl (by decide +kernel) rfl rfl (Nat.le_of_ble_eq_true rfl) dX12_go_46 (fun H locs hP _ hS => ?_)
      have hP : va_P (dC, dI) vwCl (mw ar cy (up2 st1 0 5 (nI (u3 + 1))) sl2) H := hP
      obtain ⟨st176, est176⟩ : ∃ y, y = up2 st1 0 5 (nI (u3 + 1)) := ⟨_, rfl⟩
      have hG : MG [1, 2, 3, 6, 7, 8, 9, 10, 11, 12, 13, 14, 15, 20, 21, 22, 23] st st176 := by rw [est176]; exact hG.up (rn (n := (u3 + 1)) (by decide : mr 0 5 = 941) (by omega)) (pn (by decide : pcl 0 5 = 4) (by decide))
      rw [← est176] at hP
      have hF : FM 1 st sl st176 sl2 := by rw [est176]; exact hF.up (by decide)
      refine lv_goto (tgt := 0) hx hb dX12_go_49 (by decide) ?_
      exact ih7 (941 - (u3 + 1)) _ _ _ _ (by omega) ⟨st176, sl2, (u3 + 1), rfl, by rw [est176, up2_same], by omega, (skp_y (p := u3) (m := 941) ⟨by omega, show B u3 = 32 ∨ B u3 = 10 by omega⟩ (by omega)).symm.trans hv5_1, hF, hP, hG, hS, lv_sub hl [0] rfl, rfl⟩
    · have c43 : ¬ (B u3) = 32 := fun hh => c43 ((nI_eq (a := (B u3)) (b := 32) (by omega) (by omega)).mpr hh)
      refine lv_aload_n hx hb dX12_go_25 rfl (lv_at hl 0 rfl) ?_
      refine va_get (D := (dC, dI)) (ci := 11) (v := .ref (ar 1)) (C := RX12) (T := TX12) (N := 47) hx hb hts ii_X12_go hown hK hP 0 rfl rfl 1 (by decide) (hts _ mm_X12_go_3) (fun _ hh => hh) rfl dX12_go_26 ?_
      refine lv_aload_n hx hb dX12_go_29 rfl (lv_at hl 0 rfl) ?_
      refine va_get (D := (dC, dI)) (ci := 11) (v := .int (st1 0 5)) (C := RX12) (T := TX12) (N := 47) hx hb hts ii_X12_go hown hK hP 0 rfl rfl 5 (by decide) (hts _ mm_X12_go_1) (fun _ hh => hh) rfl dX12_go_30 ?_
      refine zz_top (v := (nI u3)) (by show st1 0 5 = _; rw [eu3]) ?_
      refine va_iald hx hb hK hP 1 0 rfl rfl (i := (nI u3)) (vp_in_nI (by omega) (by decide)) dX12_go_33 ?_
      refine zz_top (v := nI (B u3)) (by rw [nI_clamp (by omega)]; exact ((MBt.fr hB hF).2.2.2.2 u3 (by omega)).1) ?_
      have hq177 := (hB.2.2.2.2 u3 (by omega)).2
      refine lv_bipush (v := 10) hx hb dX12_go_34 (by decide) ?_
      refine lv_icmp_ne (tgt := 52) hx hb dX12_go_36 (by decide) (fun c44 => ?_) (fun c44 => ?_)
      · have c44 : ¬ (B u3) = 10 := fun hh => c44 ((nI_eq (a := (B u3)) (b := 10) (by omega) (by omega)).mpr hh)
        exact kj8 _ _ _ _ ⟨by rw [show (tkq B g p) = u3 from hv5_1.symm.trans (skp_n (fun hh => by have h1 := hh.1; have h2 : B u3 = 32 ∨ B u3 = 10 := hh.2; omega))]; exact eu3, hP, hS, lv_sub hl [0] rfl, rfl⟩
      · have c44 : (B u3) = 10 := (nI_eq (a := (B u3)) (b := 10) (by omega) (by omega)).mp c44
        refine lv_aload_n hx hb dX12_go_39 rfl (lv_at hl 0 rfl) ?_
        refine lv_dup hx hb dX12_go_40 rfl ?_
        refine va_get (D := (dC, dI)) (ci := 11) (v := .int (st1 0 5)) (C := RX12) (T := TX12) (N := 47) hx hb hts ii_X12_go hown hK hP 0 rfl rfl 5 (by decide) (hts _ mm_X12_go_1) (fun _ hh => hh) rfl dX12_go_41 ?_
        refine zz_top (v := (nI u3)) (by show st1 0 5 = _; rw [eu3]) ?_
        refine lv_iconst (v := 1) hx hb dX12_go_44 (by decide) ?_
        refine lv_iadd hx hb dX12_go_45 ?_
        refine zz_top (v := nI (u3 + 1)) (nI_add u3 1) ?_
        refine va_put (D := (dC, dI)) (ci := 11) (v := .int (nI (u3 + 1))) (ty := .int) (C := RX12) (T := TX12) (N := 47) hx hb hts ii_X12_go tyX12 tyX12_ok nmX12 hown hK hP (mD hN _ _ _ _) hS 0 rfl rfl 5 (by decide) (hts _ mm_X12_go_1) (fun _ hh => hh) rfl (by decide +kernel) rfl rfl (Nat.le_of_ble_eq_true rfl) dX12_go_46 (fun H locs hP _ hS => ?_)
        have hP : va_P (dC, dI) vwCl (mw ar cy (up2 st1 0 5 (nI (u3 + 1))) sl2) H := hP
        obtain ⟨st178, est178⟩ : ∃ y, y = up2 st1 0 5 (nI (u3 + 1)) := ⟨_, rfl⟩
        have hG : MG [1, 2, 3, 6, 7, 8, 9, 10, 11, 12, 13, 14, 15, 20, 21, 22, 23] st st178 := by rw [est178]; exact hG.up (rn (n := (u3 + 1)) (by decide : mr 0 5 = 941) (by omega)) (pn (by decide : pcl 0 5 = 4) (by decide))
        rw [← est178] at hP
        have hF : FM 1 st sl st178 sl2 := by rw [est178]; exact hF.up (by decide)
        refine lv_goto (tgt := 0) hx hb dX12_go_49 (by decide) ?_
        exact ih7 (941 - (u3 + 1)) _ _ _ _ (by omega) ⟨st178, sl2, (u3 + 1), rfl, by rw [est178, up2_same], by omega, (skp_y (p := u3) (m := 941) ⟨by omega, show B u3 = 32 ∨ B u3 = 10 by omega⟩ (by omega)).symm.trans hv5_1, hF, hP, hG, hS, lv_sub hl [0] rfl, rfl⟩
