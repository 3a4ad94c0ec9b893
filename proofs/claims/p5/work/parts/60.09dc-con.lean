set_option maxHeartbeats 4000000 in
set_option maxRecDepth 100000 in
theorem x_X11_tracks (l : Launch) (dC : Nat → ClassId) (dI : Nat → Nat → Nat) (ad : Nat → Nat) (E : EP) (hEE : EC ad E) (A : Nat → Nat) (C : Nat → ClassId) (nb sz : Nat) (hN : XN A) (st : Nat → Nat → Int32) (sl : Nat → Nat → Int64) (so : Nat → XR) (hI : XI st) : Met l yX11_tracks wsX11_tracks ({ frames := 2, cells := 0, slots := 0, locals := 46 }) (va_Pc [.ref (A 0)] (xPre E dC dI A C nb sz st sl so)) (va_Qi (fun (r : Int32) (x : XT) => XG [2, 4, 5, 13, 15, 7, 12, 14] st x.1 ∧ LGq sl x.2.1 ∧ x.2.2 = so ∧ (x.1 1 1 = 0)) (xB dC dI A C nb) (XA A sz)) 0 0 (XA A sz) := by
  refine Met.ofW (cc := cX11_tracks) (maxL := 5) (ret := (some .int)) (by decide) rfl ?_
  intro p e s m args below meth c s₁ B hml hv
  obtain ⟨rfl, hsz, hP, hK, hE⟩ := hv
  have hx := B.exec
  have hb := B.bytes
  have hr := B.returns
  have hts := atoms_spec (ws := wsX11_tracks) B.pre
  have hown : s.vm.findClass RX11 = some m.cls := findClass_of_methodNamed B.named
  subst hsz
  have hEv := hEE.1 _ _ _ hE
  have hS : va_S (XA A s.heap.size) s.heap s.heap [] := va_S.rf
  have hG : XG [2, 4, 5, 13, 15, 7, 12, 14] st st := XG.rf hI
  have hl := lv_entry ([.ref (A 0)]) (n := 5) (Nat.le_of_ble_eq_true rfl)
  rw [lg_entry_eq]
  generalize (lg_sl ([.ref (A 0)]) ++ List.replicate (5 - (lg_sl ([.ref (A 0)])).length) Slot.unset).toArray = ls at hl ⊢
  have hl : lv_has ls 5 [(0, .ref (A 0))] := hl
  have hL : LGq sl sl := LGq.rf
  refine lv_aload_n hx hb dX11_tracks_0 rfl (lv_at hl 0 rfl) ?_
  refine va_get (D := (dC, dI)) (ci := 10) (v := .ref (A 1)) (C := RX11) (T := TX11) (N := 19) hx hb hts ii_X11_tracks_X11 hown hK hP 0 (xw_is (r := 0) (by omega) (xc_fix (r := 0) (by omega))) rfl 0 (by decide) (hts _ mm_X11_tracks_1) (fun _ hh => hh) rfl dX11_tracks_1 ?_
  refine va_getN (host := "OffTheLead") (D := (dC, dI)) (ci := 9) (v := .int (st 1 1)) (C := RX8) (T := TX8) (N := 15) hx hb hts ii_X11_tracks_X8 hown hK hP 1 (xw_is (r := 1) (by omega) (xc_fix (r := 1) (by omega))) rfl 1 (by decide) (va_Nw.use rfl (nf_X11_100 hEv)) (fun _ hh => hh) rfl dX11_tracks_4 ?_
  obtain ⟨n1, hn1, en1⟩ := hG.1.at (r := 1) (k := 1) (b := 941) (by decide : xrg 1 1 = 941) (by decide)
  refine zz_top (v := nI n1) (by exact en1) ?_
  refine lv_iconst (v := 2) hx hb dX11_tracks_7 (by decide) ?_
  refine lv_irem hx hb dX11_tracks_8 (by decide) ?_
  refine lv_topi (fun z2 ez2 => ?_)
  clear ez2
  refine lv_if_ne (tgt := 45) hx hb dX11_tracks_9 (by decide) (fun c1 => ?_) (fun c1 => ?_)
  · refine lv_iconst (v := (-1)) hx hb dX11_tracks_45 (by decide) ?_
    refine lv_istore_n (lv' := [(1, .int (-1)), (0, .ref (A 0))]) hx hb dX11_tracks_46 rfl hl (by decide) rfl (fun ls hl => ?_)
    refine lv_iconst (v := 0) hx hb dX11_tracks_47 (by decide) ?_
    refine lv_istore_n (lv' := [(2, .int 0), (1, .int (-1)), (0, .ref (A 0))]) hx hb dX11_tracks_48 rfl hl (by decide) rfl (fun ls hl => ?_)
    refine zz_wf (fun n stk H locs ls => ∃ k3 : Nat, ∃ z4 : Int32, n = 943 - k3 ∧ 0 ≤ k3 ∧ k3 < 943 ∧ va_P (dC, dI) vwCl (xw A C nb st sl so) H ∧ va_S (XA A s.heap.size) s.heap H locs ∧ lv_has ls 5 [(2, .int (nI k3)), (1, .int z4), (0, .ref (A 0))] ∧ stk = []) ?_ (943 - 0) _ _ _ _ ⟨0, (-1), rfl, by omega, by omega, hP, hS, lv_sub hl [0, 1, 2] rfl, rfl⟩
    rintro nn stk H locs ls ⟨k3, z4, hm6, hv5_0, hv6_1, hP, hS, hl, rfl⟩ ih7
    refine lv_iload_n hx hb dX11_tracks_49 rfl (lv_at hl 0 rfl) ?_
    refine lv_iconst (v := 1) hx hb dX11_tracks_50 (by decide) ?_
    refine lv_iadd hx hb dX11_tracks_51 ?_
    refine zz_top (v := nI (k3 + 1)) (nI_add k3 1) ?_
    refine lv_aload_n hx hb dX11_tracks_52 rfl (lv_at hl 2 rfl) ?_
    refine va_get (D := (dC, dI)) (ci := 10) (v := .ref (A 1)) (C := RX11) (T := TX11) (N := 19) hx hb hts ii_X11_tracks_X11 hown hK hP 0 (xw_is (r := 0) (by omega) (xc_fix (r := 0) (by omega))) rfl 0 (by decide) (hts _ mm_X11_tracks_1) (fun _ hh => hh) rfl dX11_tracks_53 ?_
    refine va_getN (host := "OffTheLead") (D := (dC, dI)) (ci := 9) (v := .int (st 1 1)) (C := RX8) (T := TX8) (N := 15) hx hb hts ii_X11_tracks_X8 hown hK hP 1 (xw_is (r := 1) (by omega) (xc_fix (r := 1) (by omega))) rfl 1 (by decide) (va_Nw.use rfl (nf_X11_100 hEv)) (fun _ hh => hh) rfl dX11_tracks_56 ?_
    refine zz_top (v := (nI n1)) (by show st 1 1 = _; rw [en1]) ?_
    refine lv_icmp_ge (tgt := 129) hx hb dX11_tracks_59 (by decide) (fun c2 => ?_) (fun c2 => ?_)
    · have c2 : n1 ≤ (k3 + 1) := (nI_leI (a := n1) (b := (k3 + 1)) (by omega) (by omega)).mp c2
      refine lv_aload_n hx hb dX11_tracks_129 rfl (lv_at hl 2 rfl) ?_
      refine va_get (D := (dC, dI)) (ci := 10) (v := .ref (A 1)) (C := RX11) (T := TX11) (N := 19) hx hb hts ii_X11_tracks_X11 hown hK hP 0 (xw_is (r := 0) (by omega) (xc_fix (r := 0) (by omega))) rfl 0 (by decide) (hts _ mm_X11_tracks_1) (fun _ hh => hh) rfl dX11_tracks_130 ?_
      refine lv_iconst (v := 0) hx hb dX11_tracks_133 (by decide) ?_
      refine va_putN (host := "OffTheLead") (D := (dC, dI)) (ci := 9) (v := .int 0) (ty := .int) (C := RX8) (T := TX8) (N := 15) hx hb hts ii_X11_tracks_X8 tyX8 tyX8_ok nmX8 hown hK hP (xD hN _ _ _ _ _ _) hS 1 (xw_is (r := 1) (by omega) (xc_fix (r := 1) (by omega))) rfl 1 (by decide) (va_Nw.use rfl (nf_X11_100 hEv)) (fun _ hh => hh) rfl (by decide +kernel) rfl rfl (Nat.le_of_ble_eq_true rfl) dX11_tracks_134 (fun H locs hP _ hS => ?_)
      have hP : va_P (dC, dI) vwCl (xw A C nb (up2 st 1 1 0) sl so) H := by rw [← xset (r := 1) (k := 1) (v := 0) (xc_fix (r := 1) (by omega))]; exact hP
      obtain ⟨st8, est8⟩ : ∃ y, y = up2 st 1 1 0 := ⟨_, rfl⟩
      have hG : XG [2, 4, 5, 13, 15, 7, 12, 14] st st8 := by rw [est8]; exact hG.up (xn (n := 0) (b := 941) (by decide : xrg 1 1 = 941) (by omega)) (xpn (c := 1) (by decide : xcl 1 1 = 1) (by decide))
      rw [← est8] at hP
      refine lv_iload_n hx hb dX11_tracks_137 rfl (lv_at hl 1 rfl) ?_
      exact W.iret (v := z4) hx hb hr (fun t ht hW => ⟨⟨z4, (st8, sl, so), rfl, ⟨hG, hL, rfl, by show st8 1 1 = 0; rw [est8, up2_same]⟩, xB.of ht hP⟩, hS.F ht⟩) hS.2.2 dX11_tracks_138
    · have c2 : ¬ n1 ≤ (k3 + 1) := fun hh => c2 ((nI_leI (a := n1) (b := (k3 + 1)) (by omega) (by omega)).mpr hh)
      refine lv_iload_n hx hb dX11_tracks_62 rfl (lv_at hl 1 rfl) ?_
      refine lv_iconst (v := (-1)) hx hb dX11_tracks_63 (by decide) ?_
      refine lv_icmp_eq (tgt := 129) hx hb dX11_tracks_64 (by decide) (fun c3 => ?_) (fun c3 => ?_)
      · refine lv_aload_n hx hb dX11_tracks_129 rfl (lv_at hl 2 rfl) ?_
        refine va_get (D := (dC, dI)) (ci := 10) (v := .ref (A 1)) (C := RX11) (T := TX11) (N := 19) hx hb hts ii_X11_tracks_X11 hown hK hP 0 (xw_is (r := 0) (by omega) (xc_fix (r := 0) (by omega))) rfl 0 (by decide) (hts _ mm_X11_tracks_1) (fun _ hh => hh) rfl dX11_tracks_130 ?_
        refine lv_iconst (v := 0) hx hb dX11_tracks_133 (by decide) ?_
        refine va_putN (host := "OffTheLead") (D := (dC, dI)) (ci := 9) (v := .int 0) (ty := .int) (C := RX8) (T := TX8) (N := 15) hx hb hts ii_X11_tracks_X8 tyX8 tyX8_ok nmX8 hown hK hP (xD hN _ _ _ _ _ _) hS 1 (xw_is (r := 1) (by omega) (xc_fix (r := 1) (by omega))) rfl 1 (by decide) (va_Nw.use rfl (nf_X11_100 hEv)) (fun _ hh => hh) rfl (by decide +kernel) rfl rfl (Nat.le_of_ble_eq_true rfl) dX11_tracks_134 (fun H locs hP _ hS => ?_)
        have hP : va_P (dC, dI) vwCl (xw A C nb (up2 st 1 1 0) sl so) H := by rw [← xset (r := 1) (k := 1) (v := 0) (xc_fix (r := 1) (by omega))]; exact hP
        obtain ⟨st9, est9⟩ : ∃ y, y = up2 st 1 1 0 := ⟨_, rfl⟩
        have hG : XG [2, 4, 5, 13, 15, 7, 12, 14] st st9 := by rw [est9]; exact hG.up (xn (n := 0) (b := 941) (by decide : xrg 1 1 = 941) (by omega)) (xpn (c := 1) (by decide : xcl 1 1 = 1) (by decide))
        rw [← est9] at hP
        refine lv_iload_n hx hb dX11_tracks_137 rfl (lv_at hl 1 rfl) ?_
        exact W.iret (v := z4) hx hb hr (fun t ht hW => ⟨⟨z4, (st9, sl, so), rfl, ⟨hG, hL, rfl, by show st9 1 1 = 0; rw [est9, up2_same]⟩, xB.of ht hP⟩, hS.F ht⟩) hS.2.2 dX11_tracks_138
      · refine lv_aload_n hx hb dX11_tracks_67 rfl (lv_at hl 2 rfl) ?_
        refine va_get (D := (dC, dI)) (ci := 10) (v := .ref (A 1)) (C := RX11) (T := TX11) (N := 19) hx hb hts ii_X11_tracks_X11 hown hK hP 0 (xw_is (r := 0) (by omega) (xc_fix (r := 0) (by omega))) rfl 0 (by decide) (hts _ mm_X11_tracks_1) (fun _ hh => hh) rfl dX11_tracks_68 ?_
        refine lv_iload_n hx hb dX11_tracks_71 rfl (lv_at hl 0 rfl) ?_
        refine va_calli (va_runV (As := [.int (nI k3)]) (rest := []) ⟨hx, hb, hml, hown, hts⟩ (x_X8_byteOf l dC dI ad E hEE A C nb _ hN st sl so (nI k3)  hG.1) (cwV 1 hts gX11_tracks_X8_byteOf rfl rfl rfl (by decide +kernel) ⟨Nat.le_of_ble_eq_true rfl, Nat.le_of_ble_eq_true rfl⟩) ⟨fun a U g mk q => ⟨q.1, xPre.blind hEE q.2⟩, va_recv hK hP (ci := 9) (q0 := 1) rfl (xw_is (r := 1) (by omega) (xc_fix (r := 1) (by omega))), fun U hU hW => ⟨rfl, xPre.of hEE hP hK hE hS hU hW⟩⟩ rfl rfl hl.1 rfl (lv_room (Nat.le_of_ble_eq_true rfl)) dX11_tracks_72 ⟨Nat.le_of_ble_eq_true rfl, Nat.le_of_ble_eq_true rfl⟩) hS (fun q _ h => XA.le hS.1 q h) (XA.le hS.1) (fun r10 x t H locs ht hvm hw hB _ _ hS => ?_)
        have hP := xB.at ht hB
        clear hB ht hvm
        obtain ⟨rfl, hw⟩ := hw
        have hP : va_P (dC, dI) vwCl (xw A C nb st sl so) _ := hP
        clear hw
        refine lv_istore_n (lv' := [(3, .int r10), (2, .int (nI k3)), (1, .int z4), (0, .ref (A 0))]) hx hb dX11_tracks_75 rfl hl (by decide) rfl (fun ls hl => ?_)
        refine lv_aload_n hx hb dX11_tracks_76 rfl (lv_at hl 3 rfl) ?_
        refine va_get (D := (dC, dI)) (ci := 10) (v := .ref (A 1)) (C := RX11) (T := TX11) (N := 19) hx hb hts ii_X11_tracks_X11 hown hK hP 0 (xw_is (r := 0) (by omega) (xc_fix (r := 0) (by omega))) rfl 0 (by decide) (hts _ mm_X11_tracks_1) (fun _ hh => hh) rfl dX11_tracks_77 ?_
        refine lv_iload_n hx hb dX11_tracks_80 rfl (lv_at hl 1 rfl) ?_
        refine lv_iconst (v := 1) hx hb dX11_tracks_81 (by decide) ?_
        refine lv_iadd hx hb dX11_tracks_82 ?_
        refine zz_top (v := nI (k3 + 1)) (nI_add k3 1) ?_
        refine va_calli (va_runV (As := [.int (nI (k3 + 1))]) (rest := []) ⟨hx, hb, hml, hown, hts⟩ (x_X8_byteOf l dC dI ad E hEE A C nb _ hN st sl so (nI (k3 + 1))  hG.1) (cwV 1 hts gX11_tracks_X8_byteOf rfl rfl rfl (by decide +kernel) ⟨Nat.le_of_ble_eq_true rfl, Nat.le_of_ble_eq_true rfl⟩) ⟨fun a U g mk q => ⟨q.1, xPre.blind hEE q.2⟩, va_recv hK hP (ci := 9) (q0 := 1) rfl (xw_is (r := 1) (by omega) (xc_fix (r := 1) (by omega))), fun U hU hW => ⟨rfl, xPre.of hEE hP hK hE hS hU hW⟩⟩ rfl rfl hl.1 rfl (lv_room (Nat.le_of_ble_eq_true rfl)) dX11_tracks_83 ⟨Nat.le_of_ble_eq_true rfl, Nat.le_of_ble_eq_true rfl⟩) hS (fun q _ h => XA.le hS.1 q h) (XA.le hS.1) (fun r11 x t H locs ht hvm hw hB _ _ hS => ?_)
        have hP := xB.at ht hB
        clear hB ht hvm
        obtain ⟨rfl, hw⟩ := hw
        have hP : va_P (dC, dI) vwCl (xw A C nb st sl so) _ := hP
        clear hw
        refine lv_istore (lv' := [(4, .int r11), (3, .int r10), (2, .int (nI k3)), (1, .int z4), (0, .ref (A 0))]) hx hb dX11_tracks_86 hl (by decide) rfl (fun ls hl => ?_)
        refine lv_aload_n hx hb dX11_tracks_88 rfl (lv_at hl 4 rfl) ?_
        refine va_get (D := (dC, dI)) (ci := 10) (v := .ref (A (36 + 20 * 0))) (C := RX11) (T := TX11) (N := 19) hx hb hts ii_X11_tracks_X11 hown hK hP 0 (xw_is (r := 0) (by omega) (xc_fix (r := 0) (by omega))) rfl 1 (by decide) (hts _ mm_X11_tracks_2) (fun _ hh => hh) rfl dX11_tracks_89 ?_
        refine lv_iload_n hx hb dX11_tracks_92 rfl (lv_at hl 1 rfl) ?_
        refine va_calli (va_runV (As := [.int r10]) (rest := []) ⟨hx, hb, hml, hown, hts⟩ (x_X4_hasPlace l dC dI ad E hEE A C nb _ hN st sl so 0 r10 (by omega) hG.1) (cwV 1 hts gX11_tracks_X4_hasPlace rfl rfl rfl (by decide +kernel) ⟨Nat.le_of_ble_eq_true rfl, Nat.le_of_ble_eq_true rfl⟩) ⟨fun a U g mk q => ⟨q.1, xPre.blind hEE q.2⟩, va_recv hK hP (ci := 5) (q0 := (36 + 20 * 0)) rfl (xw_is (r := (36 + 20 * 0)) (by omega) (xc_pk (i := 0) (o := 0) (by omega) (by omega))), fun U hU hW => ⟨rfl, xPre.of hEE hP hK hE hS hU hW⟩⟩ rfl rfl hl.1 rfl (lv_room (Nat.le_of_ble_eq_true rfl)) dX11_tracks_93 ⟨Nat.le_of_ble_eq_true rfl, Nat.le_of_ble_eq_true rfl⟩) hS (fun q _ h => XA.le hS.1 q h) (XA.le hS.1) (fun r12 x t H locs ht hvm hw hB _ _ hS => ?_)
        have hP := xB.at ht hB
        clear hB ht hvm
        obtain ⟨rfl, hw⟩ := hw
        have hP : va_P (dC, dI) vwCl (xw A C nb st sl so) _ := hP
        rcases hw with ⟨n13, rfl, hf14, rfl⟩ | rfl
        · refine lv_if_eq (tgt := 121) hx hb dX11_tracks_96 (by decide) (fun cc => absurd cc (by decide)) (fun _ => ?_)
          refine lv_iload hx hb dX11_tracks_99 (lv_at hl 0 rfl) ?_
          refine lv_bipush (v := 24) hx hb dX11_tracks_101 (by decide) ?_
          refine lv_icmp_ge (tgt := 121) hx hb dX11_tracks_103 (by decide) (fun c5 => ?_) (fun c5 => ?_)
          · refine lv_iconst (v := (-1)) hx hb dX11_tracks_121 (by decide) ?_
            refine lv_istore_n (lv' := [(1, .int (-1)), (4, .int r11), (3, .int (nI n13)), (2, .int (nI k3)), (0, .ref (A 0))]) hx hb dX11_tracks_122 rfl hl (by decide) rfl (fun ls hl => ?_)
            refine lv_iinc (v := (nI (k3 + 2))) (lv' := [(2, .int (nI (k3 + 2))), (1, .int (-1)), (4, .int r11), (3, .int (nI n13)), (0, .ref (A 0))]) hx hb dX11_tracks_123 hl (k := 3) rfl (nI_add k3 2) (by decide) rfl (fun ls hl => ?_)
            refine lv_goto (tgt := 49) hx hb dX11_tracks_126 (by decide) ?_
            exact ih7 (943 - (k3 + 2)) _ _ _ _ (by omega) ⟨(k3 + 2), (-1), rfl, by omega, by omega, hP, hS, lv_sub hl [0, 1, 4] rfl, rfl⟩
          · refine lv_iload_n hx hb dX11_tracks_106 rfl (lv_at hl 3 rfl) ?_
            refine lv_aload_n hx hb dX11_tracks_107 rfl (lv_at hl 4 rfl) ?_
            refine va_get (D := (dC, dI)) (ci := 10) (v := .ref (A (36 + 20 * 0))) (C := RX11) (T := TX11) (N := 19) hx hb hts ii_X11_tracks_X11 hown hK hP 0 (xw_is (r := 0) (by omega) (xc_fix (r := 0) (by omega))) rfl 1 (by decide) (hts _ mm_X11_tracks_2) (fun _ hh => hh) rfl dX11_tracks_108 ?_
            refine lv_iload_n hx hb dX11_tracks_111 rfl (lv_at hl 1 rfl) ?_
            refine lv_iload hx hb dX11_tracks_112 (lv_at hl 0 rfl) ?_
            refine va_calli (va_runV (As := [.int (nI n13), .int r11]) (rest := [.int z4]) ⟨hx, hb, hml, hown, hts⟩ (x_X4_dogsComing l dC dI ad E hEE A C nb _ hN st sl so 0 (nI n13) r11 (by omega) hG.1) (cwV 2 hts gX11_tracks_X4_dogsComing rfl rfl rfl (by decide +kernel) ⟨Nat.le_of_ble_eq_true rfl, Nat.le_of_ble_eq_true rfl⟩) ⟨fun a U g mk q => ⟨q.1, xPre.blind hEE q.2⟩, va_recv hK hP (ci := 5) (q0 := (36 + 20 * 0)) rfl (xw_is (r := (36 + 20 * 0)) (by omega) (xc_pk (i := 0) (o := 0) (by omega) (by omega))), fun U hU hW => ⟨rfl, xPre.of hEE hP hK hE hS hU hW⟩⟩ rfl rfl hl.1 rfl (lv_room (Nat.le_of_ble_eq_true rfl)) dX11_tracks_114 ⟨Nat.le_of_ble_eq_true rfl, Nat.le_of_ble_eq_true rfl⟩) hS (fun q _ h => XA.le hS.1 q h) (XA.le hS.1) (fun r15 x t H locs ht hvm hw hB _ _ hS => ?_)
            have hP := xB.at ht hB
            clear hB ht hvm
            obtain ⟨rfl, hw⟩ := hw
            have hP : va_P (dC, dI) vwCl (xw A C nb st sl so) _ := hP
            clear hw
            refine lv_iand hx hb dX11_tracks_117 ?_
            refine lv_topi (fun z16 ez16 => ?_)
            clear ez16
            refine lv_goto (tgt := 122) hx hb dX11_tracks_118 (by decide) ?_
            refine lv_istore_n (lv' := [(1, .int z16), (4, .int r11), (3, .int (nI n13)), (2, .int (nI k3)), (0, .ref (A 0))]) hx hb dX11_tracks_122 rfl hl (by decide) rfl (fun ls hl => ?_)
            refine lv_iinc (v := (nI (k3 + 2))) (lv' := [(2, .int (nI (k3 + 2))), (1, .int z16), (4, .int r11), (3, .int (nI n13)), (0, .ref (A 0))]) hx hb dX11_tracks_123 hl (k := 3) rfl (nI_add k3 2) (by decide) rfl (fun ls hl => ?_)
            refine lv_goto (tgt := 49) hx hb dX11_tracks_126 (by decide) ?_
            exact ih7 (943 - (k3 + 2)) _ _ _ _ (by omega) ⟨(k3 + 2), z16, rfl, by omega, by omega, hP, hS, lv_sub hl [0, 1, 4] rfl, rfl⟩
        · refine lv_if_eq (tgt := 121) hx hb dX11_tracks_96 (by decide) (fun _ => ?_) (fun cc => absurd (by decide) cc)
          refine lv_iconst (v := (-1)) hx hb dX11_tracks_121 (by decide) ?_
          refine lv_istore_n (lv' := [(1, .int (-1)), (4, .int r11), (3, .int r10), (2, .int (nI k3)), (0, .ref (A 0))]) hx hb dX11_tracks_122 rfl hl (by decide) rfl (fun ls hl => ?_)
          refine lv_iinc (v := (nI (k3 + 2))) (lv' := [(2, .int (nI (k3 + 2))), (1, .int (-1)), (4, .int r11), (3, .int r10), (0, .ref (A 0))]) hx hb dX11_tracks_123 hl (k := 3) rfl (nI_add k3 2) (by decide) rfl (fun ls hl => ?_)
          refine lv_goto (tgt := 49) hx hb dX11_tracks_126 (by decide) ?_
          exact ih7 (943 - (k3 + 2)) _ _ _ _ (by omega) ⟨(k3 + 2), (-1), rfl, by omega, by omega, hP, hS, lv_sub hl [0, 1, 4] rfl, rfl⟩
  · refine lv_aload_n hx hb dX11_tracks_12 rfl (lv_at hl 0 rfl) ?_
    refine va_get (D := (dC, dI)) (ci := 10) (v := .ref (A 1)) (C := RX11) (T := TX11) (N := 19) hx hb hts ii_X11_tracks_X11 hown hK hP 0 (xw_is (r := 0) (by omega) (xc_fix (r := 0) (by omega))) rfl 0 (by decide) (hts _ mm_X11_tracks_1) (fun _ hh => hh) rfl dX11_tracks_13 ?_
    refine va_getN (host := "OffTheLead") (D := (dC, dI)) (ci := 9) (v := .int (st 1 1)) (C := RX8) (T := TX8) (N := 15) hx hb hts ii_X11_tracks_X8 hown hK hP 1 (xw_is (r := 1) (by omega) (xc_fix (r := 1) (by omega))) rfl 1 (by decide) (va_Nw.use rfl (nf_X11_100 hEv)) (fun _ hh => hh) rfl dX11_tracks_16 ?_
    refine zz_top (v := (nI n1)) (by show st 1 1 = _; rw [en1]) ?_
    refine lv_iconst (v := 2) hx hb dX11_tracks_19 (by decide) ?_
    refine lv_icmp_lt (tgt := 45) hx hb dX11_tracks_20 (by decide) (fun c7 => ?_) (fun c7 => ?_)
    · have c7 : n1 < 2 := (nI_ltI (a := n1) (b := 2) (by omega) (by omega)).mp c7
      refine lv_iconst (v := (-1)) hx hb dX11_tracks_45 (by decide) ?_
      refine lv_istore_n (lv' := [(1, .int (-1)), (0, .ref (A 0))]) hx hb dX11_tracks_46 rfl hl (by decide) rfl (fun ls hl => ?_)
      refine lv_iconst (v := 0) hx hb dX11_tracks_47 (by decide) ?_
      refine lv_istore_n (lv' := [(2, .int 0), (1, .int (-1)), (0, .ref (A 0))]) hx hb dX11_tracks_48 rfl hl (by decide) rfl (fun ls hl => ?_)
      refine zz_wf (fun n stk H locs ls => ∃ k17 : Nat, ∃ z18 : Int32, n = 943 - k17 ∧ 0 ≤ k17 ∧ k17 < 943 ∧ va_P (dC, dI) vwCl (xw A C nb st sl so) H ∧ va_S (XA A s.heap.size) s.heap H locs ∧ lv_has ls 5 [(2, .int (nI k17)), (1, .int z18), (0, .ref (A 0))] ∧ stk = []) ?_ (943 - 0) _ _ _ _ ⟨0, (-1), rfl, by omega, by omega, hP, hS, lv_sub hl [0, 1, 2] rfl, rfl⟩
      rintro nn stk H locs ls ⟨k17, z18, hm20, hv19_0, hv20_1, hP, hS, hl, rfl⟩ ih21
      refine lv_iload_n hx hb dX11_tracks_49 rfl (lv_at hl 0 rfl) ?_
      refine lv_iconst (v := 1) hx hb dX11_tracks_50 (by decide) ?_
      refine lv_iadd hx hb dX11_tracks_51 ?_
      refine zz_top (v := nI (k17 + 1)) (nI_add k17 1) ?_
      refine lv_aload_n hx hb dX11_tracks_52 rfl (lv_at hl 2 rfl) ?_
      refine va_get (D := (dC, dI)) (ci := 10) (v := .ref (A 1)) (C := RX11) (T := TX11) (N := 19) hx hb hts ii_X11_tracks_X11 hown hK hP 0 (xw_is (r := 0) (by omega) (xc_fix (r := 0) (by omega))) rfl 0 (by decide) (hts _ mm_X11_tracks_1) (fun _ hh => hh) rfl dX11_tracks_53 ?_
      refine va_getN (host := "OffTheLead") (D := (dC, dI)) (ci := 9) (v := .int (st 1 1)) (C := RX8) (T := TX8) (N := 15) hx hb hts ii_X11_tracks_X8 hown hK hP 1 (xw_is (r := 1) (by omega) (xc_fix (r := 1) (by omega))) rfl 1 (by decide) (va_Nw.use rfl (nf_X11_100 hEv)) (fun _ hh => hh) rfl dX11_tracks_56 ?_
      refine zz_top (v := (nI n1)) (by show st 1 1 = _; rw [en1]) ?_
      refine lv_icmp_ge (tgt := 129) hx hb dX11_tracks_59 (by decide) (fun _ => ?_) (fun cc => absurd ((nI_leI (a := n1) (b := (k17 + 1)) (by omega) (by omega)).mpr (by omega)) cc)
      refine lv_aload_n hx hb dX11_tracks_129 rfl (lv_at hl 2 rfl) ?_
      refine va_get (D := (dC, dI)) (ci := 10) (v := .ref (A 1)) (C := RX11) (T := TX11) (N := 19) hx hb hts ii_X11_tracks_X11 hown hK hP 0 (xw_is (r := 0) (by omega) (xc_fix (r := 0) (by omega))) rfl 0 (by decide) (hts _ mm_X11_tracks_1) (fun _ hh => hh) rfl dX11_tracks_130 ?_
      refine lv_iconst (v := 0) hx hb dX11_tracks_133 (by decide) ?_
      refine va_putN (host := "OffTheLead") (D := (dC, dI)) (ci := 9) (v := .int 0) (ty := .int) (C := RX8) (T := TX8) (N := 15) hx hb hts ii_X11_tracks_X8 tyX8 tyX8_ok nmX8 hown hK hP (xD hN _ _ _ _ _ _) hS 1 (xw_is (r := 1) (by omega) (xc_fix (r := 1) (by omega))) rfl 1 (by decide) (va_Nw.use rfl (nf_X11_100 hEv)) (fun _ hh => hh) rfl (by decide +kernel) rfl rfl (Nat.le_of_ble_eq_true rfl) dX11_tracks_134 (fun H locs hP _ hS => ?_)
      have hP : va_P (dC, dI) vwCl (xw A C nb (up2 st 1 1 0) sl so) H := by rw [← xset (r := 1) (k := 1) (v := 0) (xc_fix (r := 1) (by omega))]; exact hP
      obtain ⟨st22, est22⟩ : ∃ y, y = up2 st 1 1 0 := ⟨_, rfl⟩
      have hG : XG [2, 4, 5, 13, 15, 7, 12, 14] st st22 := by rw [est22]; exact hG.up (xn (n := 0) (b := 941) (by decide : xrg 1 1 = 941) (by omega)) (xpn (c := 1) (by decide : xcl 1 1 = 1) (by decide))
      rw [← est22] at hP
      refine lv_iload_n hx hb dX11_tracks_137 rfl (lv_at hl 1 rfl) ?_
      exact W.iret (v := z18) hx hb hr (fun t ht hW => ⟨⟨z18, (st22, sl, so), rfl, ⟨hG, hL, rfl, by show st22 1 1 = 0; rw [est22, up2_same]⟩, xB.of ht hP⟩, hS.F ht⟩) hS.2.2 dX11_tracks_138
    · have c7 : ¬ n1 < 2 := fun hh => c7 ((nI_ltI (a := n1) (b := 2) (by omega) (by omega)).mpr hh)
      refine lv_aload_n hx hb dX11_tracks_23 rfl (lv_at hl 0 rfl) ?_
      refine va_get (D := (dC, dI)) (ci := 10) (v := .ref (A 1)) (C := RX11) (T := TX11) (N := 19) hx hb hts ii_X11_tracks_X11 hown hK hP 0 (xw_is (r := 0) (by omega) (xc_fix (r := 0) (by omega))) rfl 0 (by decide) (hts _ mm_X11_tracks_1) (fun _ hh => hh) rfl dX11_tracks_24 ?_
      refine va_getN (host := "OffTheLead") (D := (dC, dI)) (ci := 9) (v := .int (st 1 1)) (C := RX8) (T := TX8) (N := 15) hx hb hts ii_X11_tracks_X8 hown hK hP 1 (xw_is (r := 1) (by omega) (xc_fix (r := 1) (by omega))) rfl 1 (by decide) (va_Nw.use rfl (nf_X11_100 hEv)) (fun _ hh => hh) rfl dX11_tracks_27 ?_
      refine zz_top (v := (nI n1)) (by show st 1 1 = _; rw [en1]) ?_
      refine lv_bipush (v := 20) hx hb dX11_tracks_30 (by decide) ?_
      refine lv_icmp_gt (tgt := 45) hx hb dX11_tracks_32 (by decide) (fun c9 => ?_) (fun c9 => ?_)
      · have c9 : 20 < n1 := (nI_ltI (a := 20) (b := n1) (by omega) (by omega)).mp c9
        refine lv_iconst (v := (-1)) hx hb dX11_tracks_45 (by decide) ?_
        refine lv_istore_n (lv' := [(1, .int (-1)), (0, .ref (A 0))]) hx hb dX11_tracks_46 rfl hl (by decide) rfl (fun ls hl => ?_)
        refine lv_iconst (v := 0) hx hb dX11_tracks_47 (by decide) ?_
        refine lv_istore_n (lv' := [(2, .int 0), (1, .int (-1)), (0, .ref (A 0))]) hx hb dX11_tracks_48 rfl hl (by decide) rfl (fun ls hl => ?_)
        refine zz_wf (fun n stk H locs ls => ∃ k23 : Nat, ∃ z24 : Int32, n = 943 - k23 ∧ 0 ≤ k23 ∧ k23 < 943 ∧ va_P (dC, dI) vwCl (xw A C nb st sl so) H ∧ va_S (XA A s.heap.size) s.heap H locs ∧ lv_has ls 5 [(2, .int (nI k23)), (1, .int z24), (0, .ref (A 0))] ∧ stk = []) ?_ (943 - 0) _ _ _ _ ⟨0, (-1), rfl, by omega, by omega, hP, hS, lv_sub hl [0, 1, 2] rfl, rfl⟩
        rintro nn stk H locs ls ⟨k23, z24, hm26, hv25_0, hv26_1, hP, hS, hl, rfl⟩ ih27
        refine lv_iload_n hx hb dX11_tracks_49 rfl (lv_at hl 0 rfl) ?_
        refine lv_iconst (v := 1) hx hb dX11_tracks_50 (by decide) ?_
        refine lv_iadd hx hb dX11_tracks_51 ?_
        refine zz_top (v := nI (k23 + 1)) (nI_add k23 1) ?_
        refine lv_aload_n hx hb dX11_tracks_52 rfl (lv_at hl 2 rfl) ?_
        refine va_get (D := (dC, dI)) (ci := 10) (v := .ref (A 1)) (C := RX11) (T := TX11) (N := 19) hx hb hts ii_X11_tracks_X11 hown hK hP 0 (xw_is (r := 0) (by omega) (xc_fix (r := 0) (by omega))) rfl 0 (by decide) (hts _ mm_X11_tracks_1) (fun _ hh => hh) rfl dX11_tracks_53 ?_
        refine va_getN (host := "OffTheLead") (D := (dC, dI)) (ci := 9) (v := .int (st 1 1)) (C := RX8) (T := TX8) (N := 15) hx hb hts ii_X11_tracks_X8 hown hK hP 1 (xw_is (r := 1) (by omega) (xc_fix (r := 1) (by omega))) rfl 1 (by decide) (va_Nw.use rfl (nf_X11_100 hEv)) (fun _ hh => hh) rfl dX11_tracks_56 ?_
        refine zz_top (v := (nI n1)) (by show st 1 1 = _; rw [en1]) ?_
        refine lv_icmp_ge (tgt := 129) hx hb dX11_tracks_59 (by decide) (fun c10 => ?_) (fun c10 => ?_)
        · have c10 : n1 ≤ (k23 + 1) := (nI_leI (a := n1) (b := (k23 + 1)) (by omega) (by omega)).mp c10
          refine lv_aload_n hx hb dX11_tracks_129 rfl (lv_at hl 2 rfl) ?_
          refine va_get (D := (dC, dI)) (ci := 10) (v := .ref (A 1)) (C := RX11) (T := TX11) (N := 19) hx hb hts ii_X11_tracks_X11 hown hK hP 0 (xw_is (r := 0) (by omega) (xc_fix (r := 0) (by omega))) rfl 0 (by decide) (hts _ mm_X11_tracks_1) (fun _ hh => hh) rfl dX11_tracks_130 ?_
          refine lv_iconst (v := 0) hx hb dX11_tracks_133 (by decide) ?_
          refine va_putN (host := "OffTheLead") (D := (dC, dI)) (ci := 9) (v := .int 0) (ty := .int) (C := RX8) (T := TX8) (N := 15) hx hb hts ii_X11_tracks_X8 tyX8 tyX8_ok nmX8 hown hK hP (xD hN _ _ _ _ _ _) hS 1 (xw_is (r := 1) (by omega) (xc_fix (r := 1) (by omega))) rfl 1 (by decide) (va_Nw.use rfl (nf_X11_100 hEv)) (fun _ hh => hh) rfl (by decide +kernel) rfl rfl (Nat.le_of_ble_eq_true rfl) dX11_tracks_134 (fun H locs hP _ hS => ?_)
          have hP : va_P (dC, dI) vwCl (xw A C nb (up2 st 1 1 0) sl so) H := by rw [← xset (r := 1) (k := 1) (v := 0) (xc_fix (r := 1) (by omega))]; exact hP
          obtain ⟨st28, est28⟩ : ∃ y, y = up2 st 1 1 0 := ⟨_, rfl⟩
          have hG : XG [2, 4, 5, 13, 15, 7, 12, 14] st st28 := by rw [est28]; exact hG.up (xn (n := 0) (b := 941) (by decide : xrg 1 1 = 941) (by omega)) (xpn (c := 1) (by decide : xcl 1 1 = 1) (by decide))
          rw [← est28] at hP
          refine lv_iload_n hx hb dX11_tracks_137 rfl (lv_at hl 1 rfl) ?_
          exact W.iret (v := z24) hx hb hr (fun t ht hW => ⟨⟨z24, (st28, sl, so), rfl, ⟨hG, hL, rfl, by show st28 1 1 = 0; rw [est28, up2_same]⟩, xB.of ht hP⟩, hS.F ht⟩) hS.2.2 dX11_tracks_138
        · have c10 : ¬ n1 ≤ (k23 + 1) := fun hh => c10 ((nI_leI (a := n1) (b := (k23 + 1)) (by omega) (by omega)).mpr hh)
          refine lv_iload_n hx hb dX11_tracks_62 rfl (lv_at hl 1 rfl) ?_
          refine lv_iconst (v := (-1)) hx hb dX11_tracks_63 (by decide) ?_
          refine lv_icmp_eq (tgt := 129) hx hb dX11_tracks_64 (by decide) (fun c11 => ?_) (fun c11 => ?_)
          · refine lv_aload_n hx hb dX11_tracks_129 rfl (lv_at hl 2 rfl) ?_
            refine va_get (D := (dC, dI)) (ci := 10) (v := .ref (A 1)) (C := RX11) (T := TX11) (N := 19) hx hb hts ii_X11_tracks_X11 hown hK hP 0 (xw_is (r := 0) (by omega) (xc_fix (r := 0) (by omega))) rfl 0 (by decide) (hts _ mm_X11_tracks_1) (fun _ hh => hh) rfl dX11_tracks_130 ?_
            refine lv_iconst (v := 0) hx hb dX11_tracks_133 (by decide) ?_
            refine va_putN (host := "OffTheLead") (D := (dC, dI)) (ci := 9) (v := .int 0) (ty := .int) (C := RX8) (T := TX8) (N := 15) hx hb hts ii_X11_tracks_X8 tyX8 tyX8_ok nmX8 hown hK hP (xD hN _ _ _ _ _ _) hS 1 (xw_is (r := 1) (by omega) (xc_fix (r := 1) (by omega))) rfl 1 (by decide) (va_Nw.use rfl (nf_X11_100 hEv)) (fun _ hh => hh) rfl (by decide +kernel) rfl rfl (Nat.le_of_ble_eq_true rfl) dX11_tracks_134 (fun H locs hP _ hS => ?_)
            have hP : va_P (dC, dI) vwCl (xw A C nb (up2 st 1 1 0) sl so) H := by rw [← xset (r := 1) (k := 1) (v := 0) (xc_fix (r := 1) (by omega))]; exact hP
            obtain ⟨st29, est29⟩ : ∃ y, y = up2 st 1 1 0 := ⟨_, rfl⟩
            have hG : XG [2, 4, 5, 13, 15, 7, 12, 14] st st29 := by rw [est29]; exact hG.up (xn (n := 0) (b := 941) (by decide : xrg 1 1 = 941) (by omega)) (xpn (c := 1) (by decide : xcl 1 1 = 1) (by decide))
            rw [← est29] at hP
            refine lv_iload_n hx hb dX11_tracks_137 rfl (lv_at hl 1 rfl) ?_
            exact W.iret (v := z24) hx hb hr (fun t ht hW => ⟨⟨z24, (st29, sl, so), rfl, ⟨hG, hL, rfl, by show st29 1 1 = 0; rw [est29, up2_same]⟩, xB.of ht hP⟩, hS.F ht⟩) hS.2.2 dX11_tracks_138
          · refine lv_aload_n hx hb dX11_tracks_67 rfl (lv_at hl 2 rfl) ?_
            refine va_get (D := (dC, dI)) (ci := 10) (v := .ref (A 1)) (C := RX11) (T := TX11) (N := 19) hx hb hts ii_X11_tracks_X11 hown hK hP 0 (xw_is (r := 0) (by omega) (xc_fix (r := 0) (by omega))) rfl 0 (by decide) (hts _ mm_X11_tracks_1) (fun _ hh => hh) rfl dX11_tracks_68 ?_
            refine lv_iload_n hx hb dX11_tracks_71 rfl (lv_at hl 0 rfl) ?_
            refine va_calli (va_runV (As := [.int (nI k23)]) (rest := []) ⟨hx, hb, hml, hown, hts⟩ (x_X8_byteOf l dC dI ad E hEE A C nb _ hN st sl so (nI k23)  hG.1) (cwV 1 hts gX11_tracks_X8_byteOf rfl rfl rfl (by decide +kernel) ⟨Nat.le_of_ble_eq_true rfl, Nat.le_of_ble_eq_true rfl⟩) ⟨fun a U g mk q => ⟨q.1, xPre.blind hEE q.2⟩, va_recv hK hP (ci := 9) (q0 := 1) rfl (xw_is (r := 1) (by omega) (xc_fix (r := 1) (by omega))), fun U hU hW => ⟨rfl, xPre.of hEE hP hK hE hS hU hW⟩⟩ rfl rfl hl.1 rfl (lv_room (Nat.le_of_ble_eq_true rfl)) dX11_tracks_72 ⟨Nat.le_of_ble_eq_true rfl, Nat.le_of_ble_eq_true rfl⟩) hS (fun q _ h => XA.le hS.1 q h) (XA.le hS.1) (fun r30 x t H locs ht hvm hw hB _ _ hS => ?_)
            have hP := xB.at ht hB
            clear hB ht hvm
            obtain ⟨rfl, hw⟩ := hw
            have hP : va_P (dC, dI) vwCl (xw A C nb st sl so) _ := hP
            clear hw
            refine lv_istore_n (lv' := [(3, .int r30), (2, .int (nI k23)), (1, .int z24), (0, .ref (A 0))]) hx hb dX11_tracks_75 rfl hl (by decide) rfl (fun ls hl => ?_)
            refine lv_aload_n hx hb dX11_tracks_76 rfl (lv_at hl 3 rfl) ?_
            refine va_get (D := (dC, dI)) (ci := 10) (v := .ref (A 1)) (C := RX11) (T := TX11) (N := 19) hx hb hts ii_X11_tracks_X11 hown hK hP 0 (xw_is (r := 0) (by omega) (xc_fix (r := 0) (by omega))) rfl 0 (by decide) (hts _ mm_X11_tracks_1) (fun _ hh => hh) rfl dX11_tracks_77 ?_
            refine lv_iload_n hx hb dX11_tracks_80 rfl (lv_at hl 1 rfl) ?_
            refine lv_iconst (v := 1) hx hb dX11_tracks_81 (by decide) ?_
            refine lv_iadd hx hb dX11_tracks_82 ?_
            refine zz_top (v := nI (k23 + 1)) (nI_add k23 1) ?_
            refine va_calli (va_runV (As := [.int (nI (k23 + 1))]) (rest := []) ⟨hx, hb, hml, hown, hts⟩ (x_X8_byteOf l dC dI ad E hEE A C nb _ hN st sl so (nI (k23 + 1))  hG.1) (cwV 1 hts gX11_tracks_X8_byteOf rfl rfl rfl (by decide +kernel) ⟨Nat.le_of_ble_eq_true rfl, Nat.le_of_ble_eq_true rfl⟩) ⟨fun a U g mk q => ⟨q.1, xPre.blind hEE q.2⟩, va_recv hK hP (ci := 9) (q0 := 1) rfl (xw_is (r := 1) (by omega) (xc_fix (r := 1) (by omega))), fun U hU hW => ⟨rfl, xPre.of hEE hP hK hE hS hU hW⟩⟩ rfl rfl hl.1 rfl (lv_room (Nat.le_of_ble_eq_true rfl)) dX11_tracks_83 ⟨Nat.le_of_ble_eq_true rfl, Nat.le_of_ble_eq_true rfl⟩) hS (fun q _ h => XA.le hS.1 q h) (XA.le hS.1) (fun r31 x t H locs ht hvm hw hB _ _ hS => ?_)
            have hP := xB.at ht hB
            clear hB ht hvm
            obtain ⟨rfl, hw⟩ := hw
            have hP : va_P (dC, dI) vwCl (xw A C nb st sl so) _ := hP
            clear hw
            refine lv_istore (lv' := [(4, .int r31), (3, .int r30), (2, .int (nI k23)), (1, .int z24), (0, .ref (A 0))]) hx hb dX11_tracks_86 hl (by decide) rfl (fun ls hl => ?_)
            refine lv_aload_n hx hb dX11_tracks_88 rfl (lv_at hl 4 rfl) ?_
            refine va_get (D := (dC, dI)) (ci := 10) (v := .ref (A (36 + 20 * 0))) (C := RX11) (T := TX11) (N := 19) hx hb hts ii_X11_tracks_X11 hown hK hP 0 (xw_is (r := 0) (by omega) (xc_fix (r := 0) (by omega))) rfl 1 (by decide) (hts _ mm_X11_tracks_2) (fun _ hh => hh) rfl dX11_tracks_89 ?_
            refine lv_iload_n hx hb dX11_tracks_92 rfl (lv_at hl 1 rfl) ?_
            refine va_calli (va_runV (As := [.int r30]) (rest := []) ⟨hx, hb, hml, hown, hts⟩ (x_X4_hasPlace l dC dI ad E hEE A C nb _ hN st sl so 0 r30 (by omega) hG.1) (cwV 1 hts gX11_tracks_X4_hasPlace rfl rfl rfl (by decide +kernel) ⟨Nat.le_of_ble_eq_true rfl, Nat.le_of_ble_eq_true rfl⟩) ⟨fun a U g mk q => ⟨q.1, xPre.blind hEE q.2⟩, va_recv hK hP (ci := 5) (q0 := (36 + 20 * 0)) rfl (xw_is (r := (36 + 20 * 0)) (by omega) (xc_pk (i := 0) (o := 0) (by omega) (by omega))), fun U hU hW => ⟨rfl, xPre.of hEE hP hK hE hS hU hW⟩⟩ rfl rfl hl.1 rfl (lv_room (Nat.le_of_ble_eq_true rfl)) dX11_tracks_93 ⟨Nat.le_of_ble_eq_true rfl, Nat.le_of_ble_eq_true rfl⟩) hS (fun q _ h => XA.le hS.1 q h) (XA.le hS.1) (fun r32 x t H locs ht hvm hw hB _ _ hS => ?_)
            have hP := xB.at ht hB
            clear hB ht hvm
            obtain ⟨rfl, hw⟩ := hw
            have hP : va_P (dC, dI) vwCl (xw A C nb st sl so) _ := hP
            rcases hw with ⟨n33, rfl, hf34, rfl⟩ | rfl
            · refine lv_if_eq (tgt := 121) hx hb dX11_tracks_96 (by decide) (fun cc => absurd cc (by decide)) (fun _ => ?_)
              refine lv_iload hx hb dX11_tracks_99 (lv_at hl 0 rfl) ?_
              refine lv_bipush (v := 24) hx hb dX11_tracks_101 (by decide) ?_
              refine lv_icmp_ge (tgt := 121) hx hb dX11_tracks_103 (by decide) (fun c13 => ?_) (fun c13 => ?_)
              · refine lv_iconst (v := (-1)) hx hb dX11_tracks_121 (by decide) ?_
                refine lv_istore_n (lv' := [(1, .int (-1)), (4, .int r31), (3, .int (nI n33)), (2, .int (nI k23)), (0, .ref (A 0))]) hx hb dX11_tracks_122 rfl hl (by decide) rfl (fun ls hl => ?_)
                refine lv_iinc (v := (nI (k23 + 2))) (lv' := [(2, .int (nI (k23 + 2))), (1, .int (-1)), (4, .int r31), (3, .int (nI n33)), (0, .ref (A 0))]) hx hb dX11_tracks_123 hl (k := 3) rfl (nI_add k23 2) (by decide) rfl (fun ls hl => ?_)
                refine lv_goto (tgt := 49) hx hb dX11_tracks_126 (by decide) ?_
                exact ih27 (943 - (k23 + 2)) _ _ _ _ (by omega) ⟨(k23 + 2), (-1), rfl, by omega, by omega, hP, hS, lv_sub hl [0, 1, 4] rfl, rfl⟩
              · refine lv_iload_n hx hb dX11_tracks_106 rfl (lv_at hl 3 rfl) ?_
                refine lv_aload_n hx hb dX11_tracks_107 rfl (lv_at hl 4 rfl) ?_
                refine va_get (D := (dC, dI)) (ci := 10) (v := .ref (A (36 + 20 * 0))) (C := RX11) (T := TX11) (N := 19) hx hb hts ii_X11_tracks_X11 hown hK hP 0 (xw_is (r := 0) (by omega) (xc_fix (r := 0) (by omega))) rfl 1 (by decide) (hts _ mm_X11_tracks_2) (fun _ hh => hh) rfl dX11_tracks_108 ?_
                refine lv_iload_n hx hb dX11_tracks_111 rfl (lv_at hl 1 rfl) ?_
                refine lv_iload hx hb dX11_tracks_112 (lv_at hl 0 rfl) ?_
                refine va_calli (va_runV (As := [.int (nI n33), .int r31]) (rest := [.int z24]) ⟨hx, hb, hml, hown, hts⟩ (x_X4_dogsComing l dC dI ad E hEE A C nb _ hN st sl so 0 (nI n33) r31 (by omega) hG.1) (cwV 2 hts gX11_tracks_X4_dogsComing rfl rfl rfl (by decide +kernel) ⟨Nat.le_of_ble_eq_true rfl, Nat.le_of_ble_eq_true rfl⟩) ⟨fun a U g mk q => ⟨q.1, xPre.blind hEE q.2⟩, va_recv hK hP (ci := 5) (q0 := (36 + 20 * 0)) rfl (xw_is (r := (36 + 20 * 0)) (by omega) (xc_pk (i := 0) (o := 0) (by omega) (by omega))), fun U hU hW => ⟨rfl, xPre.of hEE hP hK hE hS hU hW⟩⟩ rfl rfl hl.1 rfl (lv_room (Nat.le_of_ble_eq_true rfl)) dX11_tracks_114 ⟨Nat.le_of_ble_eq_true rfl, Nat.le_of_ble_eq_true rfl⟩) hS (fun q _ h => XA.le hS.1 q h) (XA.le hS.1) (fun r35 x t H locs ht hvm hw hB _ _ hS => ?_)
                have hP := xB.at ht hB
                clear hB ht hvm
                obtain ⟨rfl, hw⟩ := hw
                have hP : va_P (dC, dI) vwCl (xw A C nb st sl so) _ := hP
                clear hw
                refine lv_iand hx hb dX11_tracks_117 ?_
                refine lv_topi (fun z36 ez36 => ?_)
                clear ez36
                refine lv_goto (tgt := 122) hx hb dX11_tracks_118 (by decide) ?_
                refine lv_istore_n (lv' := [(1, .int z36), (4, .int r31), (3, .int (nI n33)), (2, .int (nI k23)), (0, .ref (A 0))]) hx hb dX11_tracks_122 rfl hl (by decide) rfl (fun ls hl => ?_)
                refine lv_iinc (v := (nI (k23 + 2))) (lv' := [(2, .int (nI (k23 + 2))), (1, .int z36), (4, .int r31), (3, .int (nI n33)), (0, .ref (A 0))]) hx hb dX11_tracks_123 hl (k := 3) rfl (nI_add k23 2) (by decide) rfl (fun ls hl => ?_)
                refine lv_goto (tgt := 49) hx hb dX11_tracks_126 (by decide) ?_
                exact ih27 (943 - (k23 + 2)) _ _ _ _ (by omega) ⟨(k23 + 2), z36, rfl, by omega, by omega, hP, hS, lv_sub hl [0, 1, 4] rfl, rfl⟩
            · refine lv_if_eq (tgt := 121) hx hb dX11_tracks_96 (by decide) (fun _ => ?_) (fun cc => absurd (by decide) cc)
              refine lv_iconst (v := (-1)) hx hb dX11_tracks_121 (by decide) ?_
              refine lv_istore_n (lv' := [(1, .int (-1)), (4, .int r31), (3, .int r30), (2, .int (nI k23)), (0, .ref (A 0))]) hx hb dX11_tracks_122 rfl hl (by decide) rfl (fun ls hl => ?_)
              refine lv_iinc (v := (nI (k23 + 2))) (lv' := [(2, .int (nI (k23 + 2))), (1, .int (-1)), (4, .int r31), (3, .int r30), (0, .ref (A 0))]) hx hb dX11_tracks_123 hl (k := 3) rfl (nI_add k23 2) (by decide) rfl (fun ls hl => ?_)
              refine lv_goto (tgt := 49) hx hb dX11_tracks_126 (by decide) ?_
              exact ih27 (943 - (k23 + 2)) _ _ _ _ (by omega) ⟨(k23 + 2), (-1), rfl, by omega, by omega, hP, hS, lv_sub hl [0, 1, 4] rfl, rfl⟩
      · have c9 : ¬ 20 < n1 := fun hh => c9 ((nI_ltI (a := 20) (b := n1) (by omega) (by omega)).mpr hh)
        refine lv_aload_n hx hb dX11_tracks_35 rfl (lv_at hl 0 rfl) ?_
        refine va_get (D := (dC, dI)) (ci := 10) (v := .ref (A (36 + 20 * 0))) (C := RX11) (T := TX11) (N := 19) hx hb hts ii_X11_tracks_X11 hown hK hP 0 (xw_is (r := 0) (by omega) (xc_fix (r := 0) (by omega))) rfl 1 (by decide) (hts _ mm_X11_tracks_2) (fun _ hh => hh) rfl dX11_tracks_36 ?_
        refine va_calli (va_runV (As := []) (rest := []) ⟨hx, hb, hml, hown, hts⟩ (x_X4_dogBits l dC dI ad E hEE A C nb _ hN st sl so 0 (by omega) hG.1) (cwV 0 hts gX11_tracks_X4_dogBits rfl rfl rfl (by decide +kernel) ⟨Nat.le_of_ble_eq_true rfl, Nat.le_of_ble_eq_true rfl⟩) ⟨fun a U g mk q => ⟨q.1, xPre.blind hEE q.2⟩, va_recv hK hP (ci := 5) (q0 := (36 + 20 * 0)) rfl (xw_is (r := (36 + 20 * 0)) (by omega) (xc_pk (i := 0) (o := 0) (by omega) (by omega))), fun U hU hW => ⟨rfl, xPre.of hEE hP hK hE hS hU hW⟩⟩ rfl rfl hl.1 rfl (lv_room (Nat.le_of_ble_eq_true rfl)) dX11_tracks_39 ⟨Nat.le_of_ble_eq_true rfl, Nat.le_of_ble_eq_true rfl⟩) hS (fun q _ h => XA.le hS.1 q h) (XA.le hS.1) (fun r37 x t H locs ht hvm hw hB _ _ hS => ?_)
        have hP := xB.at ht hB
        clear hB ht hvm
        obtain ⟨rfl, hw⟩ := hw
        have hP : va_P (dC, dI) vwCl (xw A C nb st sl so) _ := hP
        clear hw
        refine lv_goto (tgt := 46) hx hb dX11_tracks_42 (by decide) ?_
        refine lv_istore_n (lv' := [(1, .int r37), (0, .ref (A 0))]) hx hb dX11_tracks_46 rfl hl (by decide) rfl (fun ls hl => ?_)
        refine lv_iconst (v := 0) hx hb dX11_tracks_47 (by decide) ?_
        refine lv_istore_n (lv' := [(2, .int 0), (1, .int r37), (0, .ref (A 0))]) hx hb dX11_tracks_48 rfl hl (by decide) rfl (fun ls hl => ?_)
        refine zz_wf (fun n stk H locs ls => ∃ k38 : Nat, ∃ z39 : Int32, n = 943 - k38 ∧ 0 ≤ k38 ∧ k38 < 943 ∧ va_P (dC, dI) vwCl (xw A C nb st sl so) H ∧ va_S (XA A s.heap.size) s.heap H locs ∧ lv_has ls 5 [(2, .int (nI k38)), (1, .int z39), (0, .ref (A 0))] ∧ stk = []) ?_ (943 - 0) _ _ _ _ ⟨0, r37, rfl, by omega, by omega, hP, hS, lv_sub hl [0, 1, 2] rfl, rfl⟩
        rintro nn stk H locs ls ⟨k38, z39, hm41, hv40_0, hv41_1, hP, hS, hl, rfl⟩ ih42
        refine lv_iload_n hx hb dX11_tracks_49 rfl (lv_at hl 0 rfl) ?_
        refine lv_iconst (v := 1) hx hb dX11_tracks_50 (by decide) ?_
        refine lv_iadd hx hb dX11_tracks_51 ?_
        refine zz_top (v := nI (k38 + 1)) (nI_add k38 1) ?_
        refine lv_aload_n hx hb dX11_tracks_52 rfl (lv_at hl 2 rfl) ?_
        refine va_get (D := (dC, dI)) (ci := 10) (v := .ref (A 1)) (C := RX11) (T := TX11) (N := 19) hx hb hts ii_X11_tracks_X11 hown hK hP 0 (xw_is (r := 0) (by omega) (xc_fix (r := 0) (by omega))) rfl 0 (by decide) (hts _ mm_X11_tracks_1) (fun _ hh => hh) rfl dX11_tracks_53 ?_
        refine va_getN (host := "OffTheLead") (D := (dC, dI)) (ci := 9) (v := .int (st 1 1)) (C := RX8) (T := TX8) (N := 15) hx hb hts ii_X11_tracks_X8 hown hK hP 1 (xw_is (r := 1) (by omega) (xc_fix (r := 1) (by omega))) rfl 1 (by decide) (va_Nw.use rfl (nf_X11_100 hEv)) (fun _ hh => hh) rfl dX11_tracks_56 ?_
        refine zz_top (v := (nI n1)) (by show st 1 1 = _; rw [en1]) ?_
        refine lv_icmp_ge (tgt := 129) hx hb dX11_tracks_59 (by decide) (fun c15 => ?_) (fun c15 => ?_)
        · have c15 : n1 ≤ (k38 + 1) := (nI_leI (a := n1) (b := (k38 + 1)) (by omega) (by omega)).mp c15
          refine lv_aload_n hx hb dX11_tracks_129 rfl (lv_at hl 2 rfl) ?_
          refine va_get (D := (dC, dI)) (ci := 10) (v := .ref (A 1)) (C := RX11) (T := TX11) (N := 19) hx hb hts ii_X11_tracks_X11 hown hK hP 0 (xw_is (r := 0) (by omega) (xc_fix (r := 0) (by omega))) rfl 0 (by decide) (hts _ mm_X11_tracks_1) (fun _ hh => hh) rfl dX11_tracks_130 ?_
          refine lv_iconst (v := 0) hx hb dX11_tracks_133 (by decide) ?_
          refine va_putN (host := "OffTheLead") (D := (dC, dI)) (ci := 9) (v := .int 0) (ty := .int) (C := RX8) (T := TX8) (N := 15) hx hb hts ii_X11_tracks_X8 tyX8 tyX8_ok nmX8 hown hK hP (xD hN _ _ _ _ _ _) hS 1 (xw_is (r := 1) (by omega) (xc_fix (r := 1) (by omega))) rfl 1 (by decide) (va_Nw.use rfl (nf_X11_100 hEv)) (fun _ hh => hh) rfl (by decide +kernel) rfl rfl (Nat.le_of_ble_eq_true rfl) dX11_tracks_134 (fun H locs hP _ hS => ?_)
          have hP : va_P (dC, dI) vwCl (xw A C nb (up2 st 1 1 0) sl so) H := by rw [← xset (r := 1) (k := 1) (v := 0) (xc_fix (r := 1) (by omega))]; exact hP
          obtain ⟨st43, est43⟩ : ∃ y, y = up2 st 1 1 0 := ⟨_, rfl⟩
          have hG : XG [2, 4, 5, 13, 15, 7, 12, 14] st st43 := by rw [est43]; exact hG.up (xn (n := 0) (b := 941) (by decide : xrg 1 1 = 941) (by omega)) (xpn (c := 1) (by decide : xcl 1 1 = 1) (by decide))
          rw [← est43] at hP
          refine lv_iload_n hx hb dX11_tracks_137 rfl (lv_at hl 1 rfl) ?_
          exact W.iret (v := z39) hx hb hr (fun t ht hW => ⟨⟨z39, (st43, sl, so), rfl, ⟨hG, hL, rfl, by show st43 1 1 = 0; rw [est43, up2_same]⟩, xB.of ht hP⟩, hS.F ht⟩) hS.2.2 dX11_tracks_138
        · have c15 : ¬ n1 ≤ (k38 + 1) := fun hh => c15 ((nI_leI (a := n1) (b := (k38 + 1)) (by omega) (by omega)).mpr hh)
          refine lv_iload_n hx hb dX11_tracks_62 rfl (lv_at hl 1 rfl) ?_
          refine lv_iconst (v := (-1)) hx hb dX11_tracks_63 (by decide) ?_
          refine lv_icmp_eq (tgt := 129) hx hb dX11_tracks_64 (by decide) (fun c16 => ?_) (fun c16 => ?_)
          · refine lv_aload_n hx hb dX11_tracks_129 rfl (lv_at hl 2 rfl) ?_
            refine va_get (D := (dC, dI)) (ci := 10) (v := .ref (A 1)) (C := RX11) (T := TX11) (N := 19) hx hb hts ii_X11_tracks_X11 hown hK hP 0 (xw_is (r := 0) (by omega) (xc_fix (r := 0) (by omega))) rfl 0 (by decide) (hts _ mm_X11_tracks_1) (fun _ hh => hh) rfl dX11_tracks_130 ?_
            refine lv_iconst (v := 0) hx hb dX11_tracks_133 (by decide) ?_
            refine va_putN (host := "OffTheLead") (D := (dC, dI)) (ci := 9) (v := .int 0) (ty := .int) (C := RX8) (T := TX8) (N := 15) hx hb hts ii_X11_tracks_X8 tyX8 tyX8_ok nmX8 hown hK hP (xD hN _ _ _ _ _ _) hS 1 (xw_is (r := 1) (by omega) (xc_fix (r := 1) (by omega))) rfl 1 (by decide) (va_Nw.use rfl (nf_X11_100 hEv)) (fun _ hh => hh) rfl (by decide +kernel) rfl rfl (Nat.le_of_ble_eq_true rfl) dX11_tracks_134 (fun H locs hP _ hS => ?_)
            have hP : va_P (dC, dI) vwCl (xw A C nb (up2 st 1 1 0) sl so) H := by rw [← xset (r := 1) (k := 1) (v := 0) (xc_fix (r := 1) (by omega))]; exact hP
            obtain ⟨st44, est44⟩ : ∃ y, y = up2 st 1 1 0 := ⟨_, rfl⟩
            have hG : XG [2, 4, 5, 13, 15, 7, 12, 14] st st44 := by rw [est44]; exact hG.up (xn (n := 0) (b := 941) (by decide : xrg 1 1 = 941) (by omega)) (xpn (c := 1) (by decide : xcl 1 1 = 1) (by decide))
            rw [← est44] at hP
            refine lv_iload_n hx hb dX11_tracks_137 rfl (lv_at hl 1 rfl) ?_
            exact W.iret (v := z39) hx hb hr (fun t ht hW => ⟨⟨z39, (st44, sl, so), rfl, ⟨hG, hL, rfl, by show st44 1 1 = 0; rw [est44, up2_same]⟩, xB.of ht hP⟩, hS.F ht⟩) hS.2.2 dX11_tracks_138
          · refine lv_aload_n hx hb dX11_tracks_67 rfl (lv_at hl 2 rfl) ?_
            refine va_get (D := (dC, dI)) (ci := 10) (v := .ref (A 1)) (C := RX11) (T := TX11) (N := 19) hx hb hts ii_X11_tracks_X11 hown hK hP 0 (xw_is (r := 0) (by omega) (xc_fix (r := 0) (by omega))) rfl 0 (by decide) (hts _ mm_X11_tracks_1) (fun _ hh => hh) rfl dX11_tracks_68 ?_
            refine lv_iload_n hx hb dX11_tracks_71 rfl (lv_at hl 0 rfl) ?_
            refine va_calli (va_runV (As := [.int (nI k38)]) (rest := []) ⟨hx, hb, hml, hown, hts⟩ (x_X8_byteOf l dC dI ad E hEE A C nb _ hN st sl so (nI k38)  hG.1) (cwV 1 hts gX11_tracks_X8_byteOf rfl rfl rfl (by decide +kernel) ⟨Nat.le_of_ble_eq_true rfl, Nat.le_of_ble_eq_true rfl⟩) ⟨fun a U g mk q => ⟨q.1, xPre.blind hEE q.2⟩, va_recv hK hP (ci := 9) (q0 := 1) rfl (xw_is (r := 1) (by omega) (xc_fix (r := 1) (by omega))), fun U hU hW => ⟨rfl, xPre.of hEE hP hK hE hS hU hW⟩⟩ rfl rfl hl.1 rfl (lv_room (Nat.le_of_ble_eq_true rfl)) dX11_tracks_72 ⟨Nat.le_of_ble_eq_true rfl, Nat.le_of_ble_eq_true rfl⟩) hS (fun q _ h => XA.le hS.1 q h) (XA.le hS.1) (fun r45 x t H locs ht hvm hw hB _ _ hS => ?_)
            have hP := xB.at ht hB
            clear hB ht hvm
            obtain ⟨rfl, hw⟩ := hw
            have hP : va_P (dC, dI) vwCl (xw A C nb st sl so) _ := hP
            clear hw
            refine lv_istore_n (lv' := [(3, .int r45), (2, .int (nI k38)), (1, .int z39), (0, .ref (A 0))]) hx hb dX11_tracks_75 rfl hl (by decide) rfl (fun ls hl => ?_)
            refine lv_aload_n hx hb dX11_tracks_76 rfl (lv_at hl 3 rfl) ?_
            refine va_get (D := (dC, dI)) (ci := 10) (v := .ref (A 1)) (C := RX11) (T := TX11) (N := 19) hx hb hts ii_X11_tracks_X11 hown hK hP 0 (xw_is (r := 0) (by omega) (xc_fix (r := 0) (by omega))) rfl 0 (by decide) (hts _ mm_X11_tracks_1) (fun _ hh => hh) rfl dX11_tracks_77 ?_
            refine lv_iload_n hx hb dX11_tracks_80 rfl (lv_at hl 1 rfl) ?_
            refine lv_iconst (v := 1) hx hb dX11_tracks_81 (by decide) ?_
            refine lv_iadd hx hb dX11_tracks_82 ?_
            refine zz_top (v := nI (k38 + 1)) (nI_add k38 1) ?_
            refine va_calli (va_runV (As := [.int (nI (k38 + 1))]) (rest := []) ⟨hx, hb, hml, hown, hts⟩ (x_X8_byteOf l dC dI ad E hEE A C nb _ hN st sl so (nI (k38 + 1))  hG.1) (cwV 1 hts gX11_tracks_X8_byteOf rfl rfl rfl (by decide +kernel) ⟨Nat.le_of_ble_eq_true rfl, Nat.le_of_ble_eq_true rfl⟩) ⟨fun a U g mk q => ⟨q.1, xPre.blind hEE q.2⟩, va_recv hK hP (ci := 9) (q0 := 1) rfl (xw_is (r := 1) (by omega) (xc_fix (r := 1) (by omega))), fun U hU hW => ⟨rfl, xPre.of hEE hP hK hE hS hU hW⟩⟩ rfl rfl hl.1 rfl (lv_room (Nat.le_of_ble_eq_true rfl)) dX11_tracks_83 ⟨Nat.le_of_ble_eq_true rfl, Nat.le_of_ble_eq_true rfl⟩) hS (fun q _ h => XA.le hS.1 q h) (XA.le hS.1) (fun r46 x t H locs ht hvm hw hB _ _ hS => ?_)
            have hP := xB.at ht hB
            clear hB ht hvm
            obtain ⟨rfl, hw⟩ := hw
            have hP : va_P (dC, dI) vwCl (xw A C nb st sl so) _ := hP
            clear hw
            refine lv_istore (lv' := [(4, .int r46), (3, .int r45), (2, .int (nI k38)), (1, .int z39), (0, .ref (A 0))]) hx hb dX11_tracks_86 hl (by decide) rfl (fun ls hl => ?_)
            refine lv_aload_n hx hb dX11_tracks_88 rfl (lv_at hl 4 rfl) ?_
            refine va_get (D := (dC, dI)) (ci := 10) (v := .ref (A (36 + 20 * 0))) (C := RX11) (T := TX11) (N := 19) hx hb hts ii_X11_tracks_X11 hown hK hP 0 (xw_is (r := 0) (by omega) (xc_fix (r := 0) (by omega))) rfl 1 (by decide) (hts _ mm_X11_tracks_2) (fun _ hh => hh) rfl dX11_tracks_89 ?_
            refine lv_iload_n hx hb dX11_tracks_92 rfl (lv_at hl 1 rfl) ?_
            refine va_calli (va_runV (As := [.int r45]) (rest := []) ⟨hx, hb, hml, hown, hts⟩ (x_X4_hasPlace l dC dI ad E hEE A C nb _ hN st sl so 0 r45 (by omega) hG.1) (cwV 1 hts gX11_tracks_X4_hasPlace rfl rfl rfl (by decide +kernel) ⟨Nat.le_of_ble_eq_true rfl, Nat.le_of_ble_eq_true rfl⟩) ⟨fun a U g mk q => ⟨q.1, xPre.blind hEE q.2⟩, va_recv hK hP (ci := 5) (q0 := (36 + 20 * 0)) rfl (xw_is (r := (36 + 20 * 0)) (by omega) (xc_pk (i := 0) (o := 0) (by omega) (by omega))), fun U hU hW => ⟨rfl, xPre.of hEE hP hK hE hS hU hW⟩⟩ rfl rfl hl.1 rfl (lv_room (Nat.le_of_ble_eq_true rfl)) dX11_tracks_93 ⟨Nat.le_of_ble_eq_true rfl, Nat.le_of_ble_eq_true rfl⟩) hS (fun q _ h => XA.le hS.1 q h) (XA.le hS.1) (fun r47 x t H locs ht hvm hw hB _ _ hS => ?_)
            have hP := xB.at ht hB
            clear hB ht hvm
            obtain ⟨rfl, hw⟩ := hw
            have hP : va_P (dC, dI) vwCl (xw A C nb st sl so) _ := hP
            rcases hw with ⟨n48, rfl, hf49, rfl⟩ | rfl
            · refine lv_if_eq (tgt := 121) hx hb dX11_tracks_96 (by decide) (fun cc => absurd cc (by decide)) (fun _ => ?_)
              refine lv_iload hx hb dX11_tracks_99 (lv_at hl 0 rfl) ?_
              refine lv_bipush (v := 24) hx hb dX11_tracks_101 (by decide) ?_
              refine lv_icmp_ge (tgt := 121) hx hb dX11_tracks_103 (by decide) (fun c18 => ?_) (fun c18 => ?_)
              · refine lv_iconst (v := (-1)) hx hb dX11_tracks_121 (by decide) ?_
                refine lv_istore_n (lv' := [(1, .int (-1)), (4, .int r46), (3, .int (nI n48)), (2, .int (nI k38)), (0, .ref (A 0))]) hx hb dX11_tracks_122 rfl hl (by decide) rfl (fun ls hl => ?_)
                refine lv_iinc (v := (nI (k38 + 2))) (lv' := [(2, .int (nI (k38 + 2))), (1, .int (-1)), (4, .int r46), (3, .int (nI n48)), (0, .ref (A 0))]) hx hb dX11_tracks_123 hl (k := 3) rfl (nI_add k38 2) (by decide) rfl (fun ls hl => ?_)
                refine lv_goto (tgt := 49) hx hb dX11_tracks_126 (by decide) ?_
                exact ih42 (943 - (k38 + 2)) _ _ _ _ (by omega) ⟨(k38 + 2), (-1), rfl, by omega, by omega, hP, hS, lv_sub hl [0, 1, 4] rfl, rfl⟩
              · refine lv_iload_n hx hb dX11_tracks_106 rfl (lv_at hl 3 rfl) ?_
                refine lv_aload_n hx hb dX11_tracks_107 rfl (lv_at hl 4 rfl) ?_
                refine va_get (D := (dC, dI)) (ci := 10) (v := .ref (A (36 + 20 * 0))) (C := RX11) (T := TX11) (N := 19) hx hb hts ii_X11_tracks_X11 hown hK hP 0 (xw_is (r := 0) (by omega) (xc_fix (r := 0) (by omega))) rfl 1 (by decide) (hts _ mm_X11_tracks_2) (fun _ hh => hh) rfl dX11_tracks_108 ?_
                refine lv_iload_n hx hb dX11_tracks_111 rfl (lv_at hl 1 rfl) ?_
                refine lv_iload hx hb dX11_tracks_112 (lv_at hl 0 rfl) ?_
                refine va_calli (va_runV (As := [.int (nI n48), .int r46]) (rest := [.int z39]) ⟨hx, hb, hml, hown, hts⟩ (x_X4_dogsComing l dC dI ad E hEE A C nb _ hN st sl so 0 (nI n48) r46 (by omega) hG.1) (cwV 2 hts gX11_tracks_X4_dogsComing rfl rfl rfl (by decide +kernel) ⟨Nat.le_of_ble_eq_true rfl, Nat.le_of_ble_eq_true rfl⟩) ⟨fun a U g mk q => ⟨q.1, xPre.blind hEE q.2⟩, va_recv hK hP (ci := 5) (q0 := (36 + 20 * 0)) rfl (xw_is (r := (36 + 20 * 0)) (by omega) (xc_pk (i := 0) (o := 0) (by omega) (by omega))), fun U hU hW => ⟨rfl, xPre.of hEE hP hK hE hS hU hW⟩⟩ rfl rfl hl.1 rfl (lv_room (Nat.le_of_ble_eq_true rfl)) dX11_tracks_114 ⟨Nat.le_of_ble_eq_true rfl, Nat.le_of_ble_eq_true rfl⟩) hS (fun q _ h => XA.le hS.1 q h) (XA.le hS.1) (fun r50 x t H locs ht hvm hw hB _ _ hS => ?_)
                have hP := xB.at ht hB
                clear hB ht hvm
                obtain ⟨rfl, hw⟩ := hw
                have hP : va_P (dC, dI) vwCl (xw A C nb st sl so) _ := hP
                clear hw
                refine lv_iand hx hb dX11_tracks_117 ?_
                refine lv_topi (fun z51 ez51 => ?_)
                clear ez51
                refine lv_goto (tgt := 122) hx hb dX11_tracks_118 (by decide) ?_
                refine lv_istore_n (lv' := [(1, .int z51), (4, .int r46), (3, .int (nI n48)), (2, .int (nI k38)), (0, .ref (A 0))]) hx hb dX11_tracks_122 rfl hl (by decide) rfl (fun ls hl => ?_)
                refine lv_iinc (v := (nI (k38 + 2))) (lv' := [(2, .int (nI (k38 + 2))), (1, .int z51), (4, .int r46), (3, .int (nI n48)), (0, .ref (A 0))]) hx hb dX11_tracks_123 hl (k := 3) rfl (nI_add k38 2) (by decide) rfl (fun ls hl => ?_)
                refine lv_goto (tgt := 49) hx hb dX11_tracks_126 (by decide) ?_
                exact ih42 (943 - (k38 + 2)) _ _ _ _ (by omega) ⟨(k38 + 2), z51, rfl, by omega, by omega, hP, hS, lv_sub hl [0, 1, 4] rfl, rfl⟩
            · refine lv_if_eq (tgt := 121) hx hb dX11_tracks_96 (by decide) (fun _ => ?_) (fun cc => absurd (by decide) cc)
              refine lv_iconst (v := (-1)) hx hb dX11_tracks_121 (by decide) ?_
              refine lv_istore_n (lv' := [(1, .int (-1)), (4, .int r46), (3, .int r45), (2, .int (nI k38)), (0, .ref (A 0))]) hx hb dX11_tracks_122 rfl hl (by decide) rfl (fun ls hl => ?_)
              refine lv_iinc (v := (nI (k38 + 2))) (lv' := [(2, .int (nI (k38 + 2))), (1, .int (-1)), (4, .int r46), (3, .int r45), (0, .ref (A 0))]) hx hb dX11_tracks_123 hl (k := 3) rfl (nI_add k38 2) (by decide) rfl (fun ls hl => ?_)
              refine lv_goto (tgt := 49) hx hb dX11_tracks_126 (by decide) ?_
              exact ih42 (943 - (k38 + 2)) _ _ _ _ (by omega) ⟨(k38 + 2), (-1), rfl, by omega, by omega, hP, hS, lv_sub hl [0, 1, 4] rfl, rfl⟩
set_option maxHeartbeats 4000000 in
set_option maxRecDepth 100000 in
theorem x_X11_votes (l : Launch) (dC : Nat → ClassId) (dI : Nat → Nat → Nat) (ad : Nat → Nat) (E : EP) (hEE : EC ad E) (A : Nat → Nat) (C : Nat → ClassId) (nb sz : Nat) (hN : XN A) (st : Nat → Nat → Int32) (sl : Nat → Nat → Int64) (so : Nat → XR) (va : Int32) (hI : XI st) : Met l yX11_votes wsX11_votes ({ frames := 1, cells := 0, slots := 0, locals := 26 }) (va_Pc [.ref (A 0), .int va] (xPre E dC dI A C nb sz st sl so)) (va_Qi (fun (r : Int32) (x : XT) => XG [1, 2, 4, 5, 13, 15, 7, 12, 14] st x.1 ∧ LGq sl x.2.1 ∧ x.2.2 = so ∧ (True)) (xB dC dI A C nb) (XA A sz)) 0 0 (XA A sz) := by
  refine Met.ofW (cc := cX11_votes) (maxL := 2) (ret := (some .int)) (by decide) rfl ?_
  intro p e s m args below meth c s₁ B hml hv
  obtain ⟨rfl, hsz, hP, hK, hE⟩ := hv
  have hx := B.exec
  have hb := B.bytes
  have hr := B.returns
  have hts := atoms_spec (ws := wsX11_votes) B.pre
  have hown : s.vm.findClass RX11 = some m.cls := findClass_of_methodNamed B.named
  subst hsz
  have hEv := hEE.1 _ _ _ hE
  have hS : va_S (XA A s.heap.size) s.heap s.heap [] := va_S.rf
  have hG : XG [1, 2, 4, 5, 13, 15, 7, 12, 14] st st := XG.rf hI
  have hl := lv_entry ([.ref (A 0), .int va]) (n := 2) (Nat.le_of_ble_eq_true rfl)
  rw [lg_entry_eq]
  generalize (lg_sl ([.ref (A 0), .int va]) ++ List.replicate (2 - (lg_sl ([.ref (A 0), .int va])).length) Slot.unset).toArray = ls at hl ⊢
  have hl : lv_has ls 2 [(0, .ref (A 0)), (1, .int va)] := hl
  have hL : LGq sl sl := LGq.rf
  refine lv_aload_n hx hb dX11_votes_0 rfl (lv_at hl 0 rfl) ?_
  refine va_get (D := (dC, dI)) (ci := 10) (v := .ref (A (36 + 20 * 0))) (C := RX11) (T := TX11) (N := 19) hx hb hts ii_X11_votes_X11 hown hK hP 0 (xw_is (r := 0) (by omega) (xc_fix (r := 0) (by omega))) rfl 1 (by decide) (hts _ mm_X11_votes_1) (fun _ hh => hh) rfl dX11_votes_1 ?_
  refine lv_iload_n hx hb dX11_votes_4 rfl (lv_at hl 1 rfl) ?_
  refine va_calli (va_runV (As := [.int va]) (rest := []) ⟨hx, hb, hml, hown, hts⟩ (x_X4_hasPlace l dC dI ad E hEE A C nb _ hN st sl so 0 va (by omega) hG.1) (cwV 1 hts gX11_votes_X4_hasPlace rfl rfl rfl (by decide +kernel) ⟨Nat.le_of_ble_eq_true rfl, Nat.le_of_ble_eq_true rfl⟩) ⟨fun a U g mk q => ⟨q.1, xPre.blind hEE q.2⟩, va_recv hK hP (ci := 5) (q0 := (36 + 20 * 0)) rfl (xw_is (r := (36 + 20 * 0)) (by omega) (xc_pk (i := 0) (o := 0) (by omega) (by omega))), fun U hU hW => ⟨rfl, xPre.of hEE hP hK hE hS hU hW⟩⟩ rfl rfl hl.1 rfl (lv_room (Nat.le_of_ble_eq_true rfl)) dX11_votes_5 ⟨Nat.le_of_ble_eq_true rfl, Nat.le_of_ble_eq_true rfl⟩) hS (fun q _ h => XA.le hS.1 q h) (XA.le hS.1) (fun r1 x t H locs ht hvm hw hB _ _ hS => ?_)
  have hP := xB.at ht hB
  clear hB ht hvm
  obtain ⟨rfl, hw⟩ := hw
  have hP : va_P (dC, dI) vwCl (xw A C nb st sl so) _ := hP
  rcases hw with ⟨n2, rfl, hf3, rfl⟩ | rfl
  · refine lv_if_eq (tgt := 24) hx hb dX11_votes_8 (by decide) (fun cc => absurd cc (by decide)) (fun _ => ?_)
    refine lv_aload_n hx hb dX11_votes_11 rfl (lv_at hl 0 rfl) ?_
    refine va_get (D := (dC, dI)) (ci := 10) (v := .ref (A (36 + 20 * 0))) (C := RX11) (T := TX11) (N := 19) hx hb hts ii_X11_votes_X11 hown hK hP 0 (xw_is (r := 0) (by omega) (xc_fix (r := 0) (by omega))) rfl 1 (by decide) (hts _ mm_X11_votes_1) (fun _ hh => hh) rfl dX11_votes_12 ?_
    refine lv_iload_n hx hb dX11_votes_15 rfl (lv_at hl 1 rfl) ?_
    refine lv_iconst (v := 1) hx hb dX11_votes_16 (by decide) ?_
    refine lv_iconst (v := 0) hx hb dX11_votes_17 (by decide) ?_
    refine va_calli (va_runV (As := [.int (nI n2), .int 1, .int 0]) (rest := []) ⟨hx, hb, hml, hown, hts⟩ (x_X4_countComers l dC dI ad E hEE A C nb _ hN st sl so 0 (nI n2) 1 0 (by omega) hG.1) (cwV 3 hts gX11_votes_X4_countComers rfl rfl rfl (by decide +kernel) ⟨Nat.le_of_ble_eq_true rfl, Nat.le_of_ble_eq_true rfl⟩) ⟨fun a U g mk q => ⟨q.1, xPre.blind hEE q.2⟩, va_recv hK hP (ci := 5) (q0 := (36 + 20 * 0)) rfl (xw_is (r := (36 + 20 * 0)) (by omega) (xc_pk (i := 0) (o := 0) (by omega) (by omega))), fun U hU hW => ⟨rfl, xPre.of hEE hP hK hE hS hU hW⟩⟩ rfl rfl hl.1 rfl (lv_room (Nat.le_of_ble_eq_true rfl)) dX11_votes_18 ⟨Nat.le_of_ble_eq_true rfl, Nat.le_of_ble_eq_true rfl⟩) hS (fun q _ h => XA.le hS.1 q h) (XA.le hS.1) (fun r4 x t H locs ht hvm hw hB _ _ hS => ?_)
    have hP := xB.at ht hB
    clear hB ht hvm
    obtain ⟨rfl, hw⟩ := hw
    have hP : va_P (dC, dI) vwCl (xw A C nb st sl so) _ := hP
    clear hw
    refine lv_goto (tgt := 25) hx hb dX11_votes_21 (by decide) ?_
    exact W.iret (v := r4) hx hb hr (fun t ht hW => ⟨⟨r4, (st, sl, so), rfl, ⟨hG, hL, rfl, trivial⟩, xB.of ht hP⟩, hS.F ht⟩) hS.2.2 dX11_votes_25
  · refine lv_if_eq (tgt := 24) hx hb dX11_votes_8 (by decide) (fun _ => ?_) (fun cc => absurd (by decide) cc)
    refine lv_iconst (v := (-1)) hx hb dX11_votes_24 (by decide) ?_
    exact W.iret (v := (-1)) hx hb hr (fun t ht hW => ⟨⟨(-1), (st, sl, so), rfl, ⟨hG, hL, rfl, trivial⟩, xB.of ht hP⟩, hS.F ht⟩) hS.2.2 dX11_votes_25
set_option maxHeartbeats 4000000 in
set_option maxRecDepth 100000 in
theorem x_X11_against (l : Launch) (dC : Nat → ClassId) (dI : Nat → Nat → Nat) (ad : Nat → Nat) (E : EP) (hEE : EC ad E) (A : Nat → Nat) (C : Nat → ClassId) (nb sz : Nat) (hN : XN A) (st : Nat → Nat → Int32) (sl : Nat → Nat → Int64) (so : Nat → XR) (va : Int32) (hI : XI st) : Met l yX11_against wsX11_against ({ frames := 1, cells := 0, slots := 0, locals := 26 }) (va_Pc [.ref (A 0), .int va] (xPre E dC dI A C nb sz st sl so)) (va_Qi (fun (r : Int32) (x : XT) => XG [1, 2, 4, 5, 13, 15, 7, 12, 14] st x.1 ∧ LGq sl x.2.1 ∧ x.2.2 = so ∧ (True)) (xB dC dI A C nb) (XA A sz)) 0 0 (XA A sz) := by
  refine Met.ofW (cc := cX11_against) (maxL := 2) (ret := (some .int)) (by decide) rfl ?_
  intro p e s m args below meth c s₁ B hml hv
  obtain ⟨rfl, hsz, hP, hK, hE⟩ := hv
  have hx := B.exec
  have hb := B.bytes
  have hr := B.returns
  have hts := atoms_spec (ws := wsX11_against) B.pre
  have hown : s.vm.findClass RX11 = some m.cls := findClass_of_methodNamed B.named
  subst hsz
  have hEv := hEE.1 _ _ _ hE
  have hS : va_S (XA A s.heap.size) s.heap s.heap [] := va_S.rf
  have hG : XG [1, 2, 4, 5, 13, 15, 7, 12, 14] st st := XG.rf hI
  have hl := lv_entry ([.ref (A 0), .int va]) (n := 2) (Nat.le_of_ble_eq_true rfl)
  rw [lg_entry_eq]
  generalize (lg_sl ([.ref (A 0), .int va]) ++ List.replicate (2 - (lg_sl ([.ref (A 0), .int va])).length) Slot.unset).toArray = ls at hl ⊢
  have hl : lv_has ls 2 [(0, .ref (A 0)), (1, .int va)] := hl
  have hL : LGq sl sl := LGq.rf
  refine lv_aload_n hx hb dX11_against_0 rfl (lv_at hl 0 rfl) ?_
  refine va_get (D := (dC, dI)) (ci := 10) (v := .ref (A (36 + 20 * 0))) (C := RX11) (T := TX11) (N := 19) hx hb hts ii_X11_against_X11 hown hK hP 0 (xw_is (r := 0) (by omega) (xc_fix (r := 0) (by omega))) rfl 1 (by decide) (hts _ mm_X11_against_1) (fun _ hh => hh) rfl dX11_against_1 ?_
  refine lv_iload_n hx hb dX11_against_4 rfl (lv_at hl 1 rfl) ?_
  refine va_calli (va_runV (As := [.int va]) (rest := []) ⟨hx, hb, hml, hown, hts⟩ (x_X4_hasPlace l dC dI ad E hEE A C nb _ hN st sl so 0 va (by omega) hG.1) (cwV 1 hts gX11_against_X4_hasPlace rfl rfl rfl (by decide +kernel) ⟨Nat.le_of_ble_eq_true rfl, Nat.le_of_ble_eq_true rfl⟩) ⟨fun a U g mk q => ⟨q.1, xPre.blind hEE q.2⟩, va_recv hK hP (ci := 5) (q0 := (36 + 20 * 0)) rfl (xw_is (r := (36 + 20 * 0)) (by omega) (xc_pk (i := 0) (o := 0) (by omega) (by omega))), fun U hU hW => ⟨rfl, xPre.of hEE hP hK hE hS hU hW⟩⟩ rfl rfl hl.1 rfl (lv_room (Nat.le_of_ble_eq_true rfl)) dX11_against_5 ⟨Nat.le_of_ble_eq_true rfl, Nat.le_of_ble_eq_true rfl⟩) hS (fun q _ h => XA.le hS.1 q h) (XA.le hS.1) (fun r1 x t H locs ht hvm hw hB _ _ hS => ?_)
  have hP := xB.at ht hB
  clear hB ht hvm
  obtain ⟨rfl, hw⟩ := hw
  have hP : va_P (dC, dI) vwCl (xw A C nb st sl so) _ := hP
  rcases hw with ⟨n2, rfl, hf3, rfl⟩ | rfl
  · refine lv_if_eq (tgt := 24) hx hb dX11_against_8 (by decide) (fun cc => absurd cc (by decide)) (fun _ => ?_)
    refine lv_aload_n hx hb dX11_against_11 rfl (lv_at hl 0 rfl) ?_
    refine va_get (D := (dC, dI)) (ci := 10) (v := .ref (A (36 + 20 * 0))) (C := RX11) (T := TX11) (N := 19) hx hb hts ii_X11_against_X11 hown hK hP 0 (xw_is (r := 0) (by omega) (xc_fix (r := 0) (by omega))) rfl 1 (by decide) (hts _ mm_X11_against_1) (fun _ hh => hh) rfl dX11_against_12 ?_
    refine lv_iload_n hx hb dX11_against_15 rfl (lv_at hl 1 rfl) ?_
    refine lv_iconst (v := 0) hx hb dX11_against_16 (by decide) ?_
    refine lv_iconst (v := 0) hx hb dX11_against_17 (by decide) ?_
    refine va_calli (va_runV (As := [.int (nI n2), .int 0, .int 0]) (rest := []) ⟨hx, hb, hml, hown, hts⟩ (x_X4_countComers l dC dI ad E hEE A C nb _ hN st sl so 0 (nI n2) 0 0 (by omega) hG.1) (cwV 3 hts gX11_against_X4_countComers rfl rfl rfl (by decide +kernel) ⟨Nat.le_of_ble_eq_true rfl, Nat.le_of_ble_eq_true rfl⟩) ⟨fun a U g mk q => ⟨q.1, xPre.blind hEE q.2⟩, va_recv hK hP (ci := 5) (q0 := (36 + 20 * 0)) rfl (xw_is (r := (36 + 20 * 0)) (by omega) (xc_pk (i := 0) (o := 0) (by omega) (by omega))), fun U hU hW => ⟨rfl, xPre.of hEE hP hK hE hS hU hW⟩⟩ rfl rfl hl.1 rfl (lv_room (Nat.le_of_ble_eq_true rfl)) dX11_against_18 ⟨Nat.le_of_ble_eq_true rfl, Nat.le_of_ble_eq_true rfl⟩) hS (fun q _ h => XA.le hS.1 q h) (XA.le hS.1) (fun r4 x t H locs ht hvm hw hB _ _ hS => ?_)
    have hP := xB.at ht hB
    clear hB ht hvm
    obtain ⟨rfl, hw⟩ := hw
    have hP : va_P (dC, dI) vwCl (xw A C nb st sl so) _ := hP
    clear hw
    refine lv_goto (tgt := 25) hx hb dX11_against_21 (by decide) ?_
    exact W.iret (v := r4) hx hb hr (fun t ht hW => ⟨⟨r4, (st, sl, so), rfl, ⟨hG, hL, rfl, trivial⟩, xB.of ht hP⟩, hS.F ht⟩) hS.2.2 dX11_against_25
  · refine lv_if_eq (tgt := 24) hx hb dX11_against_8 (by decide) (fun _ => ?_) (fun cc => absurd (by decide) cc)
    refine lv_iconst (v := (-1)) hx hb dX11_against_24 (by decide) ?_
    exact W.iret (v := (-1)) hx hb hr (fun t ht hW => ⟨⟨(-1), (st, sl, so), rfl, ⟨hG, hL, rfl, trivial⟩, xB.of ht hP⟩, hS.F ht⟩) hS.2.2 dX11_against_25
set_option maxHeartbeats 4000000 in
set_option maxRecDepth 100000 in
theorem x_X11_missed (l : Launch) (dC : Nat → ClassId) (dI : Nat → Nat → Nat) (ad : Nat → Nat) (E : EP) (hEE : EC ad E) (A : Nat → Nat) (C : Nat → ClassId) (nb sz : Nat) (hN : XN A) (st : Nat → Nat → Int32) (sl : Nat → Nat → Int64) (so : Nat → XR) (va : Int32) (hI : XI st) : Met l yX11_missed wsX11_missed ({ frames := 1, cells := 0, slots := 0, locals := 26 }) (va_Pc [.ref (A 0), .int va] (xPre E dC dI A C nb sz st sl so)) (va_Qi (fun (r : Int32) (x : XT) => XG [1, 2, 4, 5, 13, 15, 7, 12, 14] st x.1 ∧ LGq sl x.2.1 ∧ x.2.2 = so ∧ (True)) (xB dC dI A C nb) (XA A sz)) 0 0 (XA A sz) := by
  refine Met.ofW (cc := cX11_missed) (maxL := 2) (ret := (some .int)) (by decide) rfl ?_
  intro p e s m args below meth c s₁ B hml hv
  obtain ⟨rfl, hsz, hP, hK, hE⟩ := hv
  have hx := B.exec
  have hb := B.bytes
  have hr := B.returns
  have hts := atoms_spec (ws := wsX11_missed) B.pre
  have hown : s.vm.findClass RX11 = some m.cls := findClass_of_methodNamed B.named
  subst hsz
  have hEv := hEE.1 _ _ _ hE
  have hS : va_S (XA A s.heap.size) s.heap s.heap [] := va_S.rf
  have hG : XG [1, 2, 4, 5, 13, 15, 7, 12, 14] st st := XG.rf hI
  have hl := lv_entry ([.ref (A 0), .int va]) (n := 2) (Nat.le_of_ble_eq_true rfl)
  rw [lg_entry_eq]
  generalize (lg_sl ([.ref (A 0), .int va]) ++ List.replicate (2 - (lg_sl ([.ref (A 0), .int va])).length) Slot.unset).toArray = ls at hl ⊢
  have hl : lv_has ls 2 [(0, .ref (A 0)), (1, .int va)] := hl
  have hL : LGq sl sl := LGq.rf
  refine lv_aload_n hx hb dX11_missed_0 rfl (lv_at hl 0 rfl) ?_
  refine va_get (D := (dC, dI)) (ci := 10) (v := .ref (A (36 + 20 * 0))) (C := RX11) (T := TX11) (N := 19) hx hb hts ii_X11_missed_X11 hown hK hP 0 (xw_is (r := 0) (by omega) (xc_fix (r := 0) (by omega))) rfl 1 (by decide) (hts _ mm_X11_missed_1) (fun _ hh => hh) rfl dX11_missed_1 ?_
  refine lv_iload_n hx hb dX11_missed_4 rfl (lv_at hl 1 rfl) ?_
  refine va_calli (va_runV (As := [.int va]) (rest := []) ⟨hx, hb, hml, hown, hts⟩ (x_X4_hasPlace l dC dI ad E hEE A C nb _ hN st sl so 0 va (by omega) hG.1) (cwV 1 hts gX11_missed_X4_hasPlace rfl rfl rfl (by decide +kernel) ⟨Nat.le_of_ble_eq_true rfl, Nat.le_of_ble_eq_true rfl⟩) ⟨fun a U g mk q => ⟨q.1, xPre.blind hEE q.2⟩, va_recv hK hP (ci := 5) (q0 := (36 + 20 * 0)) rfl (xw_is (r := (36 + 20 * 0)) (by omega) (xc_pk (i := 0) (o := 0) (by omega) (by omega))), fun U hU hW => ⟨rfl, xPre.of hEE hP hK hE hS hU hW⟩⟩ rfl rfl hl.1 rfl (lv_room (Nat.le_of_ble_eq_true rfl)) dX11_missed_5 ⟨Nat.le_of_ble_eq_true rfl, Nat.le_of_ble_eq_true rfl⟩) hS (fun q _ h => XA.le hS.1 q h) (XA.le hS.1) (fun r1 x t H locs ht hvm hw hB _ _ hS => ?_)
  have hP := xB.at ht hB
  clear hB ht hvm
  obtain ⟨rfl, hw⟩ := hw
  have hP : va_P (dC, dI) vwCl (xw A C nb st sl so) _ := hP
  rcases hw with ⟨n2, rfl, hf3, rfl⟩ | rfl
  · refine lv_if_eq (tgt := 24) hx hb dX11_missed_8 (by decide) (fun cc => absurd cc (by decide)) (fun _ => ?_)
    refine lv_aload_n hx hb dX11_missed_11 rfl (lv_at hl 0 rfl) ?_
    refine va_get (D := (dC, dI)) (ci := 10) (v := .ref (A (36 + 20 * 0))) (C := RX11) (T := TX11) (N := 19) hx hb hts ii_X11_missed_X11 hown hK hP 0 (xw_is (r := 0) (by omega) (xc_fix (r := 0) (by omega))) rfl 1 (by decide) (hts _ mm_X11_missed_1) (fun _ hh => hh) rfl dX11_missed_12 ?_
    refine lv_iload_n hx hb dX11_missed_15 rfl (lv_at hl 1 rfl) ?_
    refine lv_iconst (v := 0) hx hb dX11_missed_16 (by decide) ?_
    refine lv_iconst (v := 1) hx hb dX11_missed_17 (by decide) ?_
    refine va_calli (va_runV (As := [.int (nI n2), .int 0, .int 1]) (rest := []) ⟨hx, hb, hml, hown, hts⟩ (x_X4_countComers l dC dI ad E hEE A C nb _ hN st sl so 0 (nI n2) 0 1 (by omega) hG.1) (cwV 3 hts gX11_missed_X4_countComers rfl rfl rfl (by decide +kernel) ⟨Nat.le_of_ble_eq_true rfl, Nat.le_of_ble_eq_true rfl⟩) ⟨fun a U g mk q => ⟨q.1, xPre.blind hEE q.2⟩, va_recv hK hP (ci := 5) (q0 := (36 + 20 * 0)) rfl (xw_is (r := (36 + 20 * 0)) (by omega) (xc_pk (i := 0) (o := 0) (by omega) (by omega))), fun U hU hW => ⟨rfl, xPre.of hEE hP hK hE hS hU hW⟩⟩ rfl rfl hl.1 rfl (lv_room (Nat.le_of_ble_eq_true rfl)) dX11_missed_18 ⟨Nat.le_of_ble_eq_true rfl, Nat.le_of_ble_eq_true rfl⟩) hS (fun q _ h => XA.le hS.1 q h) (XA.le hS.1) (fun r4 x t H locs ht hvm hw hB _ _ hS => ?_)
    have hP := xB.at ht hB
    clear hB ht hvm
    obtain ⟨rfl, hw⟩ := hw
    have hP : va_P (dC, dI) vwCl (xw A C nb st sl so) _ := hP
    clear hw
    refine lv_goto (tgt := 25) hx hb dX11_missed_21 (by decide) ?_
    exact W.iret (v := r4) hx hb hr (fun t ht hW => ⟨⟨r4, (st, sl, so), rfl, ⟨hG, hL, rfl, trivial⟩, xB.of ht hP⟩, hS.F ht⟩) hS.2.2 dX11_missed_25
  · refine lv_if_eq (tgt := 24) hx hb dX11_missed_8 (by decide) (fun _ => ?_) (fun cc => absurd (by decide) cc)
    refine lv_iconst (v := (-1)) hx hb dX11_missed_24 (by decide) ?_
    exact W.iret (v := (-1)) hx hb hr (fun t ht hW => ⟨⟨(-1), (st, sl, so), rfl, ⟨hG, hL, rfl, trivial⟩, xB.of ht hP⟩, hS.F ht⟩) hS.2.2 dX11_missed_25
set_option maxHeartbeats 4000000 in
set_option maxRecDepth 100000 in
theorem x_X11_odds (l : Launch) (dC : Nat → ClassId) (dI : Nat → Nat → Nat) (ad : Nat → Nat) (E : EP) (hEE : EC ad E) (A : Nat → Nat) (C : Nat → ClassId) (nb sz : Nat) (hN : XN A) (st : Nat → Nat → Int32) (sl : Nat → Nat → Int64) (so : Nat → XR) (va : Int32) (vb : Int32) (vc : Int32) (hI : XI st) : Met l yX11_odds wsX11_odds ({ frames := 5, cells := 0, slots := 0, locals := 123 }) (va_Pc [.ref (A 0), .int va, .int vb, .int vc] (xPre E dC dI A C nb sz st sl so)) (va_Qi (fun (r : Int32) (x : XT) => XG [1, 2, 4, 5, 13, 15, 12, 14] st x.1 ∧ x.2.2 = so ∧ (NI st sl x.1 x.2.1)) (xB dC dI A C nb) (XA A sz)) 0 0 (XA A sz) := by
  refine Met.ofW (cc := cX11_odds) (maxL := 6) (ret := (some .int)) (by decide) rfl ?_
  intro p e s m args below meth c s₁ B hml hv
  obtain ⟨rfl, hsz, hP, hK, hE⟩ := hv
  have hx := B.exec
  have hb := B.bytes
  have hr := B.returns
  have hts := atoms_spec (ws := wsX11_odds) B.pre
  have hown : s.vm.findClass RX11 = some m.cls := findClass_of_methodNamed B.named
  subst hsz
  have hEv := hEE.1 _ _ _ hE
  have hS : va_S (XA A s.heap.size) s.heap s.heap [] := va_S.rf
  have hG : XG [1, 2, 4, 5, 13, 15, 12, 14] st st := XG.rf hI
  have hl := lv_entry ([.ref (A 0), .int va, .int vb, .int vc]) (n := 6) (Nat.le_of_ble_eq_true rfl)
  rw [lg_entry_eq]
  generalize (lg_sl ([.ref (A 0), .int va, .int vb, .int vc]) ++ List.replicate (6 - (lg_sl ([.ref (A 0), .int va, .int vb, .int vc])).length) Slot.unset).toArray = ls at hl ⊢
  have hl : lv_has ls 6 [(0, .ref (A 0)), (1, .int va), (2, .int vb), (3, .int vc)] := hl
  have hni : NI st sl st sl := NI.rf
  refine lv_aload_n hx hb dX11_odds_0 rfl (lv_at hl 0 rfl) ?_
  refine va_get (D := (dC, dI)) (ci := 10) (v := .ref (A (36 + 20 * 0))) (C := RX11) (T := TX11) (N := 19) hx hb hts ii_X11_odds_X11 hown hK hP 0 (xw_is (r := 0) (by omega) (xc_fix (r := 0) (by omega))) rfl 1 (by decide) (hts _ mm_X11_odds_1) (fun _ hh => hh) rfl dX11_odds_1 ?_
  refine lv_iload_n hx hb dX11_odds_4 rfl (lv_at hl 1 rfl) ?_
  refine va_calli (va_runV (As := [.int va]) (rest := []) ⟨hx, hb, hml, hown, hts⟩ (x_X4_hasPerson l dC dI ad E hEE A C nb _ hN st sl so 0 va (by omega) hG.1) (cwV 1 hts gX11_odds_X4_hasPerson rfl rfl rfl (by decide +kernel) ⟨Nat.le_of_ble_eq_true rfl, Nat.le_of_ble_eq_true rfl⟩) ⟨fun a U g mk q => ⟨q.1, xPre.blind hEE q.2⟩, va_recv hK hP (ci := 5) (q0 := (36 + 20 * 0)) rfl (xw_is (r := (36 + 20 * 0)) (by omega) (xc_pk (i := 0) (o := 0) (by omega) (by omega))), fun U hU hW => ⟨rfl, xPre.of hEE hP hK hE hS hU hW⟩⟩ rfl rfl hl.1 rfl (lv_room (Nat.le_of_ble_eq_true rfl)) dX11_odds_5 ⟨Nat.le_of_ble_eq_true rfl, Nat.le_of_ble_eq_true rfl⟩) hS (fun q _ h => XA.le hS.1 q h) (XA.le hS.1) (fun r1 x t H locs ht hvm hw hB _ _ hS => ?_)
  have hP := xB.at ht hB
  clear hB ht hvm
  obtain ⟨rfl, hw⟩ := hw
  have hP : va_P (dC, dI) vwCl (xw A C nb st sl so) _ := hP
  rcases hw with ⟨n2, rfl, hf3, rfl⟩ | rfl
  · refine lv_if_eq (tgt := 22) hx hb dX11_odds_8 (by decide) (fun cc => absurd cc (by decide)) (fun _ => ?_)
    refine lv_iload_n hx hb dX11_odds_11 rfl (lv_at hl 2 rfl) ?_
    refine lv_iconst (v := 1) hx hb dX11_odds_12 (by decide) ?_
    refine lv_icmp_lt (tgt := 22) hx hb dX11_odds_13 (by decide) (fun c2 => ?_) (fun c2 => ?_)
    · refine lv_iconst (v := (-1)) hx hb dX11_odds_22 (by decide) ?_
      exact W.iret (v := (-1)) hx hb hr (fun t ht hW => ⟨⟨(-1), (st, sl, so), rfl, ⟨hG, rfl, hni⟩, xB.of ht hP⟩, hS.F ht⟩) hS.2.2 dX11_odds_23
    · refine lv_iload_n hx hb dX11_odds_16 rfl (lv_at hl 2 rfl) ?_
      refine lv_bipush (v := 30) hx hb dX11_odds_17 (by decide) ?_
      refine lv_icmp_le (tgt := 24) hx hb dX11_odds_19 (by decide) (fun c3 => ?_) (fun c3 => ?_)
      · refine lv_iconst (v := 0) hx hb dX11_odds_24 (by decide) ?_
        refine lv_istore (lv' := [(4, .int 0), (0, .ref (A 0)), (1, .int (nI n2)), (2, .int vb), (3, .int vc)]) hx hb dX11_odds_25 hl (by decide) rfl (fun ls hl => ?_)
        refine lv_iconst (v := 0) hx hb dX11_odds_27 (by decide) ?_
        refine lv_istore (lv' := [(5, .int 0), (4, .int 0), (0, .ref (A 0)), (1, .int (nI n2)), (2, .int vb), (3, .int vc)]) hx hb dX11_odds_28 hl (by decide) rfl (fun ls hl => ?_)
        refine zz_wf (fun n stk H locs ls => ∃ k4 : Nat, ∃ z5 : Int32, ∃ st6 : Nat → Nat → Int32, ∃ sl7 : Nat → Nat → Int64, n = (vb.toInt - k4).toNat ∧ 0 ≤ k4 ∧ k4 < 2147483648 ∧ NI st sl st6 sl7 ∧ va_P (dC, dI) vwCl (xw A C nb st6 sl7 so) H ∧ XG [1, 2, 4, 5, 13, 15, 12, 14] st st6 ∧ va_S (XA A s.heap.size) s.heap H locs ∧ lv_has ls 6 [(5, .int (nI k4)), (4, .int z5), (0, .ref (A 0)), (1, .int (nI n2)), (2, .int vb), (3, .int vc)] ∧ stk = []) ?_ ((vb.toInt - 0).toNat) _ _ _ _ ⟨0, 0, st, sl, rfl, by omega, by omega, hni, hP, hG, hS, lv_sub hl [0, 1, 2, 3, 4, 5] rfl, rfl⟩
        rintro nn stk H locs ls ⟨k4, z5, st6, sl7, hm10, hv8_0, hv9_1, hv10_0, hP, hG, hS, hl, rfl⟩ ih11
        have hni := hv10_0
        refine lv_iload hx hb dX11_odds_30 (lv_at hl 0 rfl) ?_
        refine lv_iload_n hx hb dX11_odds_32 rfl (lv_at hl 4 rfl) ?_
        refine lv_icmp_ge (tgt := 101) hx hb dX11_odds_33 (by decide) (fun c4 => ?_) (fun c4 => ?_)
        · refine lv_iload hx hb dX11_odds_101 (lv_at hl 1 rfl) ?_
          exact W.iret (v := z5) hx hb hr (fun t ht hW => ⟨⟨z5, (st6, sl7, so), rfl, ⟨hG, rfl, hni⟩, xB.of ht hP⟩, hS.F ht⟩) hS.2.2 dX11_odds_103
        · have hqc4 := zz_ltany c4 (by omega)
          refine lv_aload_n hx hb dX11_odds_36 rfl (lv_at hl 2 rfl) ?_
          refine va_get (D := (dC, dI)) (ci := 10) (v := .ref (A (36 + 20 * 1))) (C := RX11) (T := TX11) (N := 19) hx hb hts ii_X11_odds_X11 hown hK hP 0 (xw_is (r := 0) (by omega) (xc_fix (r := 0) (by omega))) rfl 2 (by decide) (hts _ mm_X11_odds_2) (fun _ hh => hh) rfl dX11_odds_37 ?_
          refine lv_aload_n hx hb dX11_odds_40 rfl (lv_at hl 2 rfl) ?_
          refine va_get (D := (dC, dI)) (ci := 10) (v := .ref (A (36 + 20 * 0))) (C := RX11) (T := TX11) (N := 19) hx hb hts ii_X11_odds_X11 hown hK hP 0 (xw_is (r := 0) (by omega) (xc_fix (r := 0) (by omega))) rfl 1 (by decide) (hts _ mm_X11_odds_1) (fun _ hh => hh) rfl dX11_odds_41 ?_
          refine va_callv (va_runV (As := [.ref (A (36 + 20 * 0))]) (rest := []) ⟨hx, hb, hml, hown, hts⟩ (x_X4_copyFrom l dC dI ad E hEE A C nb _ hN st6 sl7 so 1 0 (by omega) (by omega) hG.1 (by omega)) (cwV 1 hts gX11_odds_X4_copyFrom rfl rfl rfl (by decide +kernel) ⟨Nat.le_of_ble_eq_true rfl, Nat.le_of_ble_eq_true rfl⟩) ⟨fun a U g mk q => ⟨q.1, xPre.blind hEE q.2⟩, va_recv hK hP (ci := 5) (q0 := (36 + 20 * 1)) rfl (xw_is (r := (36 + 20 * 1)) (by omega) (xc_pk (i := 1) (o := 0) (by omega) (by omega))), fun U hU hW => ⟨rfl, xPre.of hEE hP hK hE hS hU hW⟩⟩ rfl rfl hl.1 rfl (lv_room (Nat.le_of_ble_eq_true rfl)) dX11_odds_44 ⟨Nat.le_of_ble_eq_true rfl, Nat.le_of_ble_eq_true rfl⟩) hS (fun q _ h => XA.le hS.1 q h) (XA.le hS.1) (fun x t H locs ht hvm hw hB _ _ hS => ?_)
          have hP := xB.at ht hB
          clear hB ht hvm
          obtain ⟨st13, sl14, so15⟩ := x
          obtain ⟨hGst13, hOst13, hw⟩ := hw
          dsimp only at hGst13 hOst13 hw
          replace hOst13 := hOst13.symm
          subst hOst13
          have hP : va_P (dC, dI) vwCl (xw A C nb st13 sl14 so) _ := hP
          have hG : XG [1, 2, 4, 5, 13, 15, 12, 14] st st13 := hG.tr hGst13 (by decide)
          have hf16 := hw
          have hni : NI st sl st13 sl14 := hni.cq hf16 hGst13 (by decide)
          refine lv_aload_n hx hb dX11_odds_47 rfl (lv_at hl 2 rfl) ?_
          refine va_get (D := (dC, dI)) (ci := 10) (v := .ref (A 10)) (C := RX11) (T := TX11) (N := 19) hx hb hts ii_X11_odds_X11 hown hK hP 0 (xw_is (r := 0) (by omega) (xc_fix (r := 0) (by omega))) rfl 7 (by decide) (hts _ mm_X11_odds_3) (fun _ hh => hh) rfl dX11_odds_48 ?_
          refine lv_aload_n hx hb dX11_odds_51 rfl (lv_at hl 2 rfl) ?_
          refine va_get (D := (dC, dI)) (ci := 10) (v := .ref (A (36 + 20 * 1))) (C := RX11) (T := TX11) (N := 19) hx hb hts ii_X11_odds_X11 hown hK hP 0 (xw_is (r := 0) (by omega) (xc_fix (r := 0) (by omega))) rfl 2 (by decide) (hts _ mm_X11_odds_2) (fun _ hh => hh) rfl dX11_odds_52 ?_
          refine lv_bipush (v := 7) hx hb dX11_odds_55 (by decide) ?_
          refine lv_iload_n hx hb dX11_odds_57 rfl (lv_at hl 5 rfl) ?_
          refine lv_iload hx hb dX11_odds_58 (lv_at hl 0 rfl) ?_
          refine lv_iadd hx hb dX11_odds_60 ?_
          refine lv_topi (fun z17 ez17 => ?_)
          clear ez17
          refine va_calli (va_runV (As := [.ref (A (36 + 20 * 1)), .int 7, .int z17]) (rest := []) ⟨hx, hb, hml, hown, hts⟩ (x_X1_live l dC dI ad E hEE A C nb _ hN st13 sl14 so 1 7 z17 (by omega) hG.1) (cwV 3 hts gX11_odds_X1_live rfl rfl rfl (by decide +kernel) ⟨Nat.le_of_ble_eq_true rfl, Nat.le_of_ble_eq_true rfl⟩) ⟨fun a U g mk q => ⟨q.1, xPre.blind hEE q.2⟩, va_recv hK hP (ci := 2) (q0 := 10) rfl (xw_is (r := 10) (by omega) (xc_fix (r := 10) (by omega))), fun U hU hW => ⟨rfl, xPre.of hEE hP hK hE hS hU hW⟩⟩ rfl rfl hl.1 rfl (lv_room (Nat.le_of_ble_eq_true rfl)) dX11_odds_61 ⟨Nat.le_of_ble_eq_true rfl, Nat.le_of_ble_eq_true rfl⟩) hS (fun q _ h => XA.le hS.1 q h) (XA.le hS.1) (fun r18 x t H locs ht hvm hw hB _ _ hS => ?_)
          have hP := xB.at ht hB
          clear hB ht hvm
          obtain ⟨st19, sl20, so21⟩ := x
          obtain ⟨hGst19, hLGst19, hOst19, hw⟩ := hw
          dsimp only at hGst19 hLGst19 hOst19 hw
          replace hOst19 := hOst19.symm
          subst hOst19
          have hP : va_P (dC, dI) vwCl (xw A C nb st19 sl20 so) _ := hP
          have hG : XG [1, 2, 4, 5, 13, 15, 12, 14] st st19 := hG.tr hGst19 (by decide)
          clear hw
          have hni : NI st sl st19 sl20 := hni.mg hGst19 (by decide) (by decide) hLGst19
          refine lv_pop hx hb dX11_odds_64 rfl ?_
          refine lv_aload_n hx hb dX11_odds_65 rfl (lv_at hl 2 rfl) ?_
          refine va_get (D := (dC, dI)) (ci := 10) (v := .ref (A (36 + 20 * 1))) (C := RX11) (T := TX11) (N := 19) hx hb hts ii_X11_odds_X11 hown hK hP 0 (xw_is (r := 0) (by omega) (xc_fix (r := 0) (by omega))) rfl 2 (by decide) (hts _ mm_X11_odds_2) (fun _ hh => hh) rfl dX11_odds_66 ?_
          refine va_getN (host := "OffTheLead") (D := (dC, dI)) (ci := 5) (v := .ref (A (36 + 20 * 1 + 4))) (C := RX4) (T := TX4) (N := 12) hx hb hts ii_X11_odds_X4 hown hK hP (36 + 20 * 1) (xw_is (r := (36 + 20 * 1)) (by omega) (xc_pk (i := 1) (o := 0) (by omega) (by omega))) rfl 3 (by decide) (va_Nw.use rfl (nf_X11_140 hEv)) (fun _ hh => hh) rfl dX11_odds_69 ?_
          refine lv_iload_n hx hb dX11_odds_72 rfl (lv_at hl 3 rfl) ?_
          refine va_aldq hx hb hK hP (36 + 20 * 1 + 4) (36 + 20 * 1 + 4) (xw_is (r := (36 + 20 * 1 + 4)) (by omega) (xc_pk (i := 1) (o := 4) (by omega) (by omega))) (xt_is (r := (36 + 20 * 1 + 4)) (by omega) ((xty_pk (i := 1) (o := 4) (by omega)).trans rfl)) (i := (nI n2)) (vp_in_nI (by omega) (by decide)) dX11_odds_73 ?_
          refine zz_topq (r := some (A (36 + 20 * 1 + (6 + n2)))) (by rw [nI_clamp (by omega)]; exact congrArg some (congrArg A (by omega))) ?_
          refine va_getN (host := "OffTheLead") (D := (dC, dI)) (ci := 7) (v := .int (st19 (36 + 20 * 1 + (6 + n2)) 6)) (C := RX6) (T := TX6) (N := 9) hx hb hts ii_X11_odds_X6 hown hK hP (36 + 20 * 1 + (6 + n2)) (xw_is (r := (36 + 20 * 1 + (6 + n2))) (by omega) (xc_person (i := 1) (p := n2) (by omega) (by omega))) rfl 6 (by decide) (va_Nw.use rfl (nf_X11_161 hEv)) (fun _ hh => hh) rfl dX11_odds_74 ?_
          obtain ⟨z22, ez22⟩ : ∃ y : Int32, st19 (36 + 20 * 1 + (6 + n2)) 6 = y := ⟨_, rfl⟩
          refine zz_top (v := z22) (by exact ez22) ?_
          refine lv_aload_n hx hb dX11_odds_77 rfl (lv_at hl 2 rfl) ?_
          refine va_get (D := (dC, dI)) (ci := 10) (v := .ref (A (36 + 20 * 0))) (C := RX11) (T := TX11) (N := 19) hx hb hts ii_X11_odds_X11 hown hK hP 0 (xw_is (r := 0) (by omega) (xc_fix (r := 0) (by omega))) rfl 1 (by decide) (hts _ mm_X11_odds_1) (fun _ hh => hh) rfl dX11_odds_78 ?_
          refine va_getN (host := "OffTheLead") (D := (dC, dI)) (ci := 5) (v := .ref (A (36 + 20 * 0 + 4))) (C := RX4) (T := TX4) (N := 12) hx hb hts ii_X11_odds_X4 hown hK hP (36 + 20 * 0) (xw_is (r := (36 + 20 * 0)) (by omega) (xc_pk (i := 0) (o := 0) (by omega) (by omega))) rfl 3 (by decide) (va_Nw.use rfl (nf_X11_140 hEv)) (fun _ hh => hh) rfl dX11_odds_81 ?_
          refine lv_iload_n hx hb dX11_odds_84 rfl (lv_at hl 3 rfl) ?_
          refine va_aldq hx hb hK hP (36 + 20 * 0 + 4) (36 + 20 * 0 + 4) (xw_is (r := (36 + 20 * 0 + 4)) (by omega) (xc_pk (i := 0) (o := 4) (by omega) (by omega))) (xt_is (r := (36 + 20 * 0 + 4)) (by omega) ((xty_pk (i := 0) (o := 4) (by omega)).trans rfl)) (i := (nI n2)) (vp_in_nI (by omega) (by decide)) dX11_odds_85 ?_
          refine zz_topq (r := some (A (36 + 20 * 0 + (6 + n2)))) (by rw [nI_clamp (by omega)]; exact congrArg some (congrArg A (by omega))) ?_
          refine va_getN (host := "OffTheLead") (D := (dC, dI)) (ci := 7) (v := .int (st19 (36 + 20 * 0 + (6 + n2)) 6)) (C := RX6) (T := TX6) (N := 9) hx hb hts ii_X11_odds_X6 hown hK hP (36 + 20 * 0 + (6 + n2)) (xw_is (r := (36 + 20 * 0 + (6 + n2))) (by omega) (xc_person (i := 0) (p := n2) (by omega) (by omega))) rfl 6 (by decide) (va_Nw.use rfl (nf_X11_161 hEv)) (fun _ hh => hh) rfl dX11_odds_86 ?_
          obtain ⟨z23, ez23⟩ : ∃ y : Int32, st19 (36 + 20 * 0 + (6 + n2)) 6 = y := ⟨_, rfl⟩
          refine zz_top (v := z23) (by exact ez23) ?_
          refine lv_icmp_le (tgt := 95) hx hb dX11_odds_89 (by decide) (fun c5 => ?_) (fun c5 => ?_)
          · refine lv_iinc (v := (nI (k4 + 1))) (lv' := [(5, .int (nI (k4 + 1))), (4, .int z5), (0, .ref (A 0)), (1, .int (nI n2)), (2, .int vb), (3, .int vc)]) hx hb dX11_odds_95 hl (k := 0) rfl (nI_add k4 1) (by decide) rfl (fun ls hl => ?_)
            refine lv_goto (tgt := 30) hx hb dX11_odds_98 (by decide) ?_
            exact ih11 ((vb.toInt - (k4 + 1)).toNat) _ _ _ _ (by omega) ⟨(k4 + 1), z5, st19, sl20, rfl, by omega, by omega, hni, hP, hG, hS, lv_sub hl [0, 1, 2, 3, 4, 5] rfl, rfl⟩
          · obtain ⟨z24, ez24⟩ : ∃ y : Int32, y = z5 + 1 := ⟨_, rfl⟩
            refine lv_iinc (v := z24) (lv' := [(4, .int z24), (5, .int (nI k4)), (0, .ref (A 0)), (1, .int (nI n2)), (2, .int vb), (3, .int vc)]) hx hb dX11_odds_92 hl (k := 1) rfl (by rw [ez24]; rfl) (by decide) rfl (fun ls hl => ?_)
            refine lv_iinc (v := (nI (k4 + 1))) (lv' := [(5, .int (nI (k4 + 1))), (4, .int z24), (0, .ref (A 0)), (1, .int (nI n2)), (2, .int vb), (3, .int vc)]) hx hb dX11_odds_95 hl (k := 1) rfl (nI_add k4 1) (by decide) rfl (fun ls hl => ?_)
            refine lv_goto (tgt := 30) hx hb dX11_odds_98 (by decide) ?_
            exact ih11 ((vb.toInt - (k4 + 1)).toNat) _ _ _ _ (by omega) ⟨(k4 + 1), z24, st19, sl20, rfl, by omega, by omega, hni, hP, hG, hS, lv_sub hl [0, 1, 2, 3, 4, 5] rfl, rfl⟩
      · refine lv_iconst (v := (-1)) hx hb dX11_odds_22 (by decide) ?_
        exact W.iret (v := (-1)) hx hb hr (fun t ht hW => ⟨⟨(-1), (st, sl, so), rfl, ⟨hG, rfl, hni⟩, xB.of ht hP⟩, hS.F ht⟩) hS.2.2 dX11_odds_23
  · refine lv_if_eq (tgt := 22) hx hb dX11_odds_8 (by decide) (fun _ => ?_) (fun cc => absurd (by decide) cc)
    refine lv_iconst (v := (-1)) hx hb dX11_odds_22 (by decide) ?_
    exact W.iret (v := (-1)) hx hb hr (fun t ht hW => ⟨⟨(-1), (st, sl, so), rfl, ⟨hG, rfl, hni⟩, xB.of ht hP⟩, hS.F ht⟩) hS.2.2 dX11_odds_23
