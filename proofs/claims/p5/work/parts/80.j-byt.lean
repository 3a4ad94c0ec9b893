set_option maxHeartbeats 4000000 in
set_option maxRecDepth 100000 in
theorem x_X11_byteAt2 (l : Launch) (dC : Nat → ClassId) (dI : Nat → Nat → Nat) (ad : Nat → Nat) (E : EP) (hEE : EC ad E) (A : Nat → Nat) (C : Nat → ClassId) (nb sz : Nat) (hN : XN A) (st : Nat → Nat → Int32) (sl : Nat → Nat → Int64) (so : Nat → XR) (va : Int32) (hI : XI st) (hBD : BD nb st) : Met l yX11_byteAt wsX11_byteAt ({ frames := 4, cells := 0, slots := 0, locals := 88 }) (va_Pc [.ref (A 0), .int va] (xPre E dC dI A C nb sz st sl so)) (va_Qi (fun (r : Int32) (x : XT) => XG [1, 2, 3, 4, 5, 6, 7, 8, 9, 10, 11, 12, 14, 15] st x.1 ∧ LGq sl x.2.1 ∧ x.2.2 = so ∧ (BD nb x.1)) (xB dC dI A C nb) (XA A sz)) 0 0 (XA A sz) := by
  refine Met.ofW (cc := cX11_byteAt) (maxL := 2) (ret := (some .int)) (by decide) rfl ?_
  intro p e s m args below meth c s₁ B hml hv
  obtain ⟨rfl, hsz, hP, hK, hE⟩ := hv
  have hx := B.exec
  have hb := B.bytes
  have hr := B.returns
  have hts := atoms_spec (ws := wsX11_byteAt) B.pre
  have hown : s.vm.findClass RX11 = some m.cls := findClass_of_methodNamed B.named
  subst hsz
  have hEv := hEE.1 _ _ _ hE
  have hS : va_S (XA A s.heap.size) s.heap s.heap [] := va_S.rf
  have hG : XG [1, 2, 3, 4, 5, 6, 7, 8, 9, 10, 11, 12, 14, 15] st st := XG.rf hI
  have hBR : BR A A s.heap.size := BR.rf
  have hl := lv_entry ([.ref (A 0), .int va]) (n := 2) (Nat.le_of_ble_eq_true rfl)
  rw [lg_entry_eq]
  generalize (lg_sl ([.ref (A 0), .int va]) ++ List.replicate (2 - (lg_sl ([.ref (A 0), .int va])).length) Slot.unset).toArray = ls at hl ⊢
  have hl : lv_has ls 2 [(0, .ref (A 0)), (1, .int va)] := hl
  obtain ⟨hco, hnb, ⟨gn, hc3, hcle, hc30⟩, hfit⟩ := hBD
  have hL : LGq sl sl := LGq.rf
  refine lv_iload_n hx hb dX11_byteAt_0 rfl (lv_at hl 1 rfl) ?_
  refine lv_if_lt (tgt := 15) hx hb dX11_byteAt_1 (by decide) (fun c1 => ?_) (fun c1 => ?_)
  · refine lv_iconst (v := (-1)) hx hb dX11_byteAt_15 (by decide) ?_
    exact W.iret (v := (-1)) hx hb hr (fun t ht hW => ⟨⟨(-1), (st, sl, so), rfl, ⟨hG, hL, rfl, ⟨hco, hnb, ⟨gn, hc3, hcle, hc30⟩, hfit⟩⟩, xB.of ht hP⟩, hS.F ht⟩) hS.2.2 dX11_byteAt_16
  · obtain ⟨jn1, hjn1, rfl⟩ := nI_of c1
    refine lv_iload_n hx hb dX11_byteAt_4 rfl (lv_at hl 1 rfl) ?_
    refine lv_aload_n hx hb dX11_byteAt_5 rfl (lv_at hl 0 rfl) ?_
    refine va_get (D := (dC, dI)) (ci := 10) (v := .ref (A 18)) (C := RX11) (T := TX11) (N := 19) hx hb hts ii_X11_byteAt_X11 hown hK hP 0 (xw_is (r := 0) (by omega) (xc_fix (r := 0) (by omega))) rfl 14 (by decide) (hts _ mm_X11_byteAt_1) (fun _ hh => hh) rfl dX11_byteAt_6 ?_
    have hPs := xsub (cn := gn) hP (by rw [hco]) (by rw [hc3])
    have hKs := xKsub hK
    have hns : A 18 ≠ A 19 := fun h9 => absurd (hN 18 19 (by omega) (by omega) h9) (by decide)
    have hS0 := hS
    refine va_calli (va_runV (As := []) (rest := [.int (nI jn1)]) ⟨hx, hb, hml, hown, hts⟩ (s_J4_length_8abf5 l dC dI ad E hEE (A 18) (A 19) (C 19) nb (st 19) (st 18 2) gn _ hns hfit (by omega) (by omega) ) (cwV 0 hts gX11_byteAt_J4_length_8abf5 rfl rfl rfl (by decide +kernel) ⟨Nat.le_of_ble_eq_true rfl, Nat.le_of_ble_eq_true rfl⟩) ⟨fun a U g mk q => ⟨q.1, sPre.blind hEE q.2⟩, va_recv hKs hPs (ci := 0) (q0 := 0) rfl rfl, fun U hU hW => ⟨rfl, sPre.of hEE hPs hKs hE hS (hBR.sa _ hS.1) hU hW⟩⟩ rfl rfl hl.1 rfl (lv_room (Nat.le_of_ble_eq_true rfl)) dX11_byteAt_9 ⟨Nat.le_of_ble_eq_true rfl, Nat.le_of_ble_eq_true rfl⟩) hS (fun q _ h => hBR.sa _ hS.1 q h) (hBR.sa _ hS.1) (fun r2 x t H5 locs ht hvm hw hB hz hk hS => ?_)
    obtain ⟨hPt, hK2, hne2, hv2, hF2⟩ := hB
    rw [ht] at hPt
    obtain ⟨rfl, hw⟩ := hw
    dsimp only at hPt hK2 hne2 hv2 hF2
    have hK3 := va_K.moved hvm.symm hK2
    have hj := xjoin hN hP hK hBR hS0.1 hPt hK3 hk hne2 hv2
    rw [A19_self, C19_self] at hj
    obtain ⟨st9, est9⟩ : ∃ y, y = st19 st (st 19) (st 18 2) (nI gn) := ⟨_, rfl⟩
    rw [← est9] at hj
    have hst9a : st9 18 1 = 0 := by rw [est9]; rfl
    have hst9b : st9 18 3 = (nI gn) := by rw [est9]; rfl
    have hfit : sb_Fit (st9 19) := by rw [est9]; exact hF2
    have hGst9 : XG [1, 2, 3, 4, 5, 6, 7, 8, 9, 10, 11, 12, 14, 15] st st9 := by rw [est9]; exact xg19 (XG.rf hG.1) (by decide) _ _ _
    have hG : XG [1, 2, 3, 4, 5, 6, 7, 8, 9, 10, 11, 12, 14, 15] st st9 := by rw [est9]; exact xg19 hG (by decide) _ _ _
    clear hK3 hK2 hne2 hv2 hF2 ht hvm est9 hPs hKs hk hz
    obtain ⟨hP, hK, hN, hBR⟩ := hj
    obtain ⟨n10, rfl, hf11⟩ := hw
    refine lv_icmp_lt (tgt := 17) hx hb dX11_byteAt_12 (by decide) (fun c2 => ?_) (fun c2 => ?_)
    · have c2 : jn1 < n10 := (nI_ltI (a := jn1) (b := n10) (by omega) (by omega)).mp c2
      refine lv_aload_n hx hb dX11_byteAt_17 rfl (lv_at hl 0 rfl) ?_
      refine va_get (D := (dC, dI)) (ci := 10) (v := .ref (A 18)) (C := RX11) (T := TX11) (N := 19) hx hb hts ii_X11_byteAt_X11 hown hK hP 0 (xw_is (r := 0) (by omega) (xc_fix (r := 0) (by omega))) rfl 14 (by decide) (hts _ mm_X11_byteAt_1) (fun _ hh => hh) rfl dX11_byteAt_18 ?_
      refine lv_iload_n hx hb dX11_byteAt_21 rfl (lv_at hl 1 rfl) ?_
      have hPs := xsub (cn := gn) hP (by rw [hst9a]) (by rw [hst9b])
      have hKs := xKsub hK
      have hns : A 18 ≠ A 19 := fun h9 => absurd (hN 18 19 (by omega) (by omega) h9) (by decide)
      have hS0 := hS
      refine va_calli (va_runV (As := [.int (nI jn1)]) (rest := []) ⟨hx, hb, hml, hown, hts⟩ (s_J4_charAt_5068e l dC dI ad E hEE (A 18) (A 19) (C 19) nb (st9 19) (st9 18 2) gn _ jn1 hns hfit (by omega) (by omega) (by omega) (by omega)) (cwV 1 hts gX11_byteAt_J4_charAt_5068e rfl rfl rfl (by decide +kernel) ⟨Nat.le_of_ble_eq_true rfl, Nat.le_of_ble_eq_true rfl⟩) ⟨fun a U g mk q => ⟨q.1, sPre.blind hEE q.2⟩, va_recv hKs hPs (ci := 0) (q0 := 0) rfl rfl, fun U hU hW => ⟨rfl, sPre.of hEE hPs hKs hE hS (hBR.sa _ hS.1) hU hW⟩⟩ rfl rfl hl.1 rfl (lv_room (Nat.le_of_ble_eq_true rfl)) dX11_byteAt_22 ⟨Nat.le_of_ble_eq_true rfl, Nat.le_of_ble_eq_true rfl⟩) hS (fun q _ h => hBR.sa _ hS.1 q h) (hBR.sa _ hS.1) (fun r12 x t H5 locs ht hvm hw hB hz hk hS => ?_)
      obtain ⟨hPt, hK2, hne2, hv2, hF2⟩ := hB
      rw [ht] at hPt
      obtain ⟨rfl, hw⟩ := hw
      dsimp only at hPt hK2 hne2 hv2 hF2
      have hK3 := va_K.moved hvm.symm hK2
      have hj := xjoin hN hP hK hBR hS0.1 hPt hK3 hk hne2 hv2
      rw [A19_self, C19_self] at hj
      obtain ⟨st19, est19⟩ : ∃ y, y = st19 st9 (st9 19) (st9 18 2) (nI gn) := ⟨_, rfl⟩
      rw [← est19] at hj
      have hst19a : st19 18 1 = 0 := by rw [est19]; rfl
      have hst19b : st19 18 3 = (nI gn) := by rw [est19]; rfl
      have hfit : sb_Fit (st19 19) := by rw [est19]; exact hF2
      have hGst19 : XG [1, 2, 3, 4, 5, 6, 7, 8, 9, 10, 11, 12, 14, 15] st9 st19 := by rw [est19]; exact xg19 (XG.rf hG.1) (by decide) _ _ _
      have hG : XG [1, 2, 3, 4, 5, 6, 7, 8, 9, 10, 11, 12, 14, 15] st st19 := by rw [est19]; exact xg19 hG (by decide) _ _ _
      clear hK3 hK2 hne2 hv2 hF2 ht hvm est19 hPs hKs hk hz
      obtain ⟨hP, hK, hN, hBR⟩ := hj
      have hf20 := hw
      exact W.iret (v := r12) hx hb hr (fun t ht hW => ⟨⟨r12, (st19, sl, so), rfl, ⟨hG, hL, rfl, ⟨hst19a, hnb, ⟨gn, hst19b, hcle, hc30⟩, hfit⟩⟩, xB.of ht hP⟩, hS.F ht⟩) hS.2.2 dX11_byteAt_25
    · have c2 : ¬ jn1 < n10 := fun hh => c2 ((nI_ltI (a := jn1) (b := n10) (by omega) (by omega)).mpr hh)
      refine lv_iconst (v := (-1)) hx hb dX11_byteAt_15 (by decide) ?_
      exact W.iret (v := (-1)) hx hb hr (fun t ht hW => ⟨⟨(-1), (st9, sl, so), rfl, ⟨hG, hL, rfl, ⟨hst9a, hnb, ⟨gn, hst9b, hcle, hc30⟩, hfit⟩⟩, xB.of ht hP⟩, hS.F ht⟩) hS.2.2 dX11_byteAt_16
