set_option maxHeartbeats 4000000 in
set_option maxRecDepth 100000 in
theorem f_readSaid_0 (l : Launch) (dC : Nat → ClassId) (dI : Nat → Nat → Nat) (ar : Nat → Nat) (cy : Nat → ClassId) (sz : Nat) (hN : MN ar) (st : Nat → Nat → Int32) (sl : Nat → Nat → Int64) (B : Nat → Nat) (g m : Nat) (p : Nat) (c : Nat → Nat) (nm : Nat → Nat → Nat) (gn : Nat) (go : Nat) (hI : MI st) (hB : MBt B g m st) (hT : TM B g m p st sl) (hR : RN c nm st sl) (h43 : st 0 43 = nI gn) (h44 : st 0 44 = nI go) (h45 : st 0 45 = 0) (hgn : gn ≤ 2 * go) (hgo : go ≤ 20) : Met l yX12_readSaid wsX12_readSaid ({ frames := 35, cells := 0, slots := 0, locals := 749 }) (va_Pc [.ref (ar 0)] (mPre dC dI ar cy sz st sl)) (va_Qi (fun (r : Int32) (x : MT) => MG [1, 2, 3, 6, 7, 13, 14, 15, 20, 21, 22] st x.1 ∧ FM 6 st sl x.1 x.2 ∧ ((∃ q : Nat, ∃ n1 : Nat, ∃ o1 : Nat, ∃ t1 : Nat, r = 1 ∧ TM B g m q x.1 x.2 ∧ x.1 0 43 = nI n1 ∧ x.1 0 44 = nI o1 ∧ x.1 0 45 = 0 ∧ x.1 0 46 = nI t1 ∧ t1 < n1 ∧ n1 + 2 * go + 1 ≤ gn + 2 * o1 ∧ go + 1 ≤ o1 ∧ o1 ≤ 20 ∧ gn ≤ n1 ∧ sOne B g m c nm 8 p go = (0, q, o1) ∧ x.1 0 10 = st 0 10) ∨ (∃ f : Nat, ∃ a : Nat, r = 0 ∧ x.1 0 10 = nI f ∧ x.1 0 11 = nI a ∧ 1 ≤ f ∧ sOne B g m c nm 8 p go = sf f a ∧ x.1 0 45 = 0))) (mB dC dI ar cy) (MA ar sz)) 0 0 (MA ar sz) := by
  refine Met.ofW (cc := cX12_readSaid) (maxL := 4) (ret := (some .boolean)) (by decide) rfl ?_
  intro p9 e s m9 args below meth c9 s₁ B9 hml hv
  obtain ⟨rfl, hsz, hP, hK⟩ := hv
  have hx := B9.exec
  have hb := B9.bytes
  have hr := B9.returns
  have hts := atoms_spec (ws := wsX12_readSaid) B9.pre
  have hown : s.vm.findClass RX12 = some m9.cls := findClass_of_methodNamed B9.named
  subst hsz
  have hS : va_S (MA ar s.heap.size) s.heap s.heap [] := va_S.rf
  have hG : MG [1, 2, 3, 6, 7, 13, 14, 15, 20, 21, 22] st st := MG.rf hI
  have hl := lv_entry ([.ref (ar 0)]) (n := 4) (Nat.le_of_ble_eq_true rfl)
  rw [lg_entry_eq]
  generalize (lg_sl ([.ref (ar 0)]) ++ List.replicate (4 - (lg_sl ([.ref (ar 0)])).length) Slot.unset).toArray = ls at hl ⊢
  have hl : lv_has ls 4 [(0, .ref (ar 0))] := hl
  clear hI
  have hB1 := hB.2.2.1
  have hB2 := hB.2.2.2.1
  have hF : FM 6 st sl st sl := FM.rf
  have hp9 := hT.2.2.2.2.2.2
  have hk1 := tkd_lt (B := B) (g := g) (m := m) (p := p)
  have hk2 := tkx_le (B := B) (g := g) (m := m) (p := p) hp9
  have hk3 := tka_le (B := B) (g := g) (m := m) (p := p) hp9 hB.2.2.1
  have hk4 := tkv_lt (p := p) hB hp9
  have hk5 := tkw_lt (B := B) (g := g) (m := m) (p := p)
  have hR9 := hR.2.1
  refine lv_aload_n hx hb dX12_readSaid_0 rfl (lv_at hl 0 rfl) ?_
  refine lv_bipush (v := 40) hx hb dX12_readSaid_1 (by decide) ?_
  refine va_calli (va_runV (As := [.int 40]) (rest := []) ⟨hx, hb, hml, hown, hts⟩ (f_isSign40 l dC dI ar cy _ hN st sl B g m p hG.1 (MBt.fr hB hF) hT) (cwV 1 hts gX12_readSaid_X12_isSign rfl rfl rfl (by decide +kernel) ⟨Nat.le_of_ble_eq_true rfl, Nat.le_of_ble_eq_true rfl⟩) ⟨fun a U g mk q => ⟨q.1, mPre.blind q.2⟩, va_recv hK hP (ci := 11) (q0 := 0) rfl rfl, fun U hU hW => ⟨rfl, mPre.of hP hK hU hW⟩⟩ rfl rfl hl.1 rfl (lv_room (Nat.le_of_ble_eq_true rfl)) dX12_readSaid_3 ⟨Nat.le_of_ble_eq_true rfl, Nat.le_of_ble_eq_true rfl⟩) hS (fun q _ h => MA.le hS.1 q h) (MA.le hS.1) (fun r1 x t H locs ht hvm hw hB9 _ _ hS => ?_)
  have hP := mB.at ht hB9
  clear hB9 ht hvm
  obtain ⟨rfl, hw⟩ := hw
  have hP : va_P (dC, dI) vwCl (mw ar cy st sl) _ := hP
  rcases hw with ⟨rfl, hf2, hf3⟩ | ⟨rfl, hf4⟩
  · refine lv_istore_n (lv' := [(1, .int 1), (0, .ref (ar 0))]) hx hb dX12_readSaid_6 rfl hl (by decide) rfl (fun ls hl => ?_)
    refine lv_bipush (v := 15) hx hb dX12_readSaid_7 (by decide) ?_
    refine lv_istore_n (lv' := [(2, .int 15), (1, .int 1), (0, .ref (ar 0))]) hx hb dX12_readSaid_9 rfl hl (by decide) rfl (fun ls hl => ?_)
    refine zz_wf (fun n stk H locs ls => ∃ k5 : Nat, n = 25 - k5 ∧ 15 ≤ k5 ∧ k5 < 25 ∧ (∀ i, 15 ≤ i → i < k5 → ¬ tkw B g m p = i) ∧ va_P (dC, dI) vwCl (mw ar cy st sl) H ∧ va_S (MA ar s.heap.size) s.heap H locs ∧ lv_has ls 4 [(2, .int (nI k5)), (1, .int 1), (0, .ref (ar 0))] ∧ stk = []) ?_ (25 - 15) _ _ _ _ ⟨15, rfl, by omega, by omega, fun i h1 h2 => absurd h1 (by omega), hP, hS, lv_sub hl [0, 1, 2] rfl, rfl⟩
    rintro nn stk H locs ls ⟨k5, hm8, hv6_0, hv7_1, hv8_0, hP, hS, hl, rfl⟩ ih9
    refine lv_iload_n hx hb dX12_readSaid_10 rfl (lv_at hl 0 rfl) ?_
    refine lv_bipush (v := 23) hx hb dX12_readSaid_11 (by decide) ?_
    refine lv_icmp_gt (tgt := 30) hx hb dX12_readSaid_13 (by decide) (fun c1 => ?_) (fun c1 => ?_)
    · have c1 : 23 < k5 := (nI_ltI (a := 23) (b := k5) (by omega) (by omega)).mp c1
      refine lv_iload_n hx hb dX12_readSaid_30 rfl (lv_at hl 1 rfl) ?_
      refine lv_if_ne (tgt := 46) hx hb dX12_readSaid_31 (by decide) (fun _ => ?_) (fun cc => absurd cc (by decide))
      refine lv_aload_n hx hb dX12_readSaid_46 rfl (lv_at hl 2 rfl) ?_
      refine va_get (D := (dC, dI)) (ci := 11) (v := .int (st 0 44)) (C := RX12) (T := TX12) (N := 47) hx hb hts ii_X12_readSaid hown hK hP 0 rfl rfl 44 (by decide) (hts _ mm_X12_readSaid_1) (fun _ hh => hh) rfl dX12_readSaid_47 ?_
      refine zz_top (v := (nI go)) (by show st 0 44 = _; rw [h44]) ?_
      refine lv_bipush (v := 20) hx hb dX12_readSaid_50 (by decide) ?_
      refine lv_icmp_eq (tgt := 64) hx hb dX12_readSaid_52 (by decide) (fun c3 => ?_) (fun c3 => ?_)
      · have c3 : go = 20 := (nI_eq (a := go) (b := 20) (by omega) (by omega)).mp c3
        refine lv_aload_n hx hb dX12_readSaid_64 rfl (lv_at hl 2 rfl) ?_
        refine lv_iconst (v := 4) hx hb dX12_readSaid_65 (by decide) ?_
        refine va_calli (va_runV (As := [.int 4]) (rest := []) ⟨hx, hb, hml, hown, hts⟩ (f_bad l dC dI ar cy _ hN st sl 4 B g m p (by omega) hG.1 (MBt.fr hB hF) hT) (cwV 1 hts gX12_readSaid_X12_bad rfl rfl rfl (by decide +kernel) ⟨Nat.le_of_ble_eq_true rfl, Nat.le_of_ble_eq_true rfl⟩) ⟨fun a U g mk q => ⟨q.1, mPre.blind q.2⟩, va_recv hK hP (ci := 11) (q0 := 0) rfl rfl, fun U hU hW => ⟨rfl, mPre.of hP hK hU hW⟩⟩ rfl rfl hl.1 rfl (lv_room (Nat.le_of_ble_eq_true rfl)) dX12_readSaid_66 ⟨Nat.le_of_ble_eq_true rfl, Nat.le_of_ble_eq_true rfl⟩) hS (fun q _ h => MA.le hS.1 q h) (MA.le hS.1) (fun r10 x t H locs ht hvm hw hB9 _ _ hS => ?_)
        have hP := mB.at ht hB9
        clear hB9 ht hvm
        obtain ⟨st11, sl12⟩ := x
        obtain ⟨hG2, hF2, hw⟩ := hw
        dsimp only at hG2 hF2 hw
        have hP : va_P (dC, dI) vwCl (mw ar cy st11 sl12) _ := hP
        have hG : MG [1, 2, 3, 6, 7, 13, 14, 15, 20, 21, 22] st st11 := hG.tr hG2 (by decide)
        have hFst11 : FM 2 st sl st11 sl12 := hF2
        have hF : FM 6 st sl st11 sl12 := hF.tr hFst11 (by omega) (by omega)
        clear hG2 hF2
        have hR : RN c nm st11 sl12 := hR.fr hFst11
        obtain ⟨rfl, hf13, hf14, hT⟩ := hw
        have hp9 := hT.2.2.2.2.2.2
        have hk1 := tkd_lt (B := B) (g := g) (m := m) (p := p)
        have hk2 := tkx_le (B := B) (g := g) (m := m) (p := p) hp9
        have hk3 := tka_le (B := B) (g := g) (m := m) (p := p) hp9 hB.2.2.1
        have hk4 := tkv_lt (p := p) hB hp9
        have hk5 := tkw_lt (B := B) (g := g) (m := m) (p := p)
        exact W.zret (v := 0) hx hb hr rfl (fun t ht hW => ⟨⟨0, (st11, sl12), rfl, ⟨hG, hF, Or.inr (⟨4, (tka B g m p), rfl, by show st11 0 10 = _; rw [hf13, bdk_n (by have h9 := @tkw_d B g m p; omega)], by show st11 0 11 = _; rw [hf14], by omega, sO_4 (Or.inl ⟨hf2, hf3⟩) (Or.inr (by omega)), by show st11 0 45 = _; rw [(hFst11 0 45 (by decide)).1, h45]⟩)⟩, mB.of ht hP⟩, hS.F ht⟩) hS.2.2 dX12_readSaid_69
      · have c3 : ¬ go = 20 := fun hh => c3 ((nI_eq (a := go) (b := 20) (by omega) (by omega)).mpr hh)
        refine lv_aload_n hx hb dX12_readSaid_55 rfl (lv_at hl 2 rfl) ?_
        refine va_get (D := (dC, dI)) (ci := 11) (v := .int (st 0 45)) (C := RX12) (T := TX12) (N := 47) hx hb hts ii_X12_readSaid hown hK hP 0 rfl rfl 45 (by decide) (hts _ mm_X12_readSaid_2) (fun _ hh => hh) rfl dX12_readSaid_56 ?_
        refine zz_top (v := 0) (by show st 0 45 = _; rw [h45]) ?_
        refine lv_bipush (v := 8) hx hb dX12_readSaid_59 (by decide) ?_
        refine lv_icmp_ne (tgt := 70) hx hb dX12_readSaid_61 (by decide) (fun _ => ?_) (fun cc => absurd cc (by decide))
        refine lv_aload_n hx hb dX12_readSaid_70 rfl (lv_at hl 2 rfl) ?_
        refine lv_dup hx hb dX12_readSaid_71 rfl ?_
        refine va_get (D := (dC, dI)) (ci := 11) (v := .int (st 0 44)) (C := RX12) (T := TX12) (N := 47) hx hb hts ii_X12_readSaid hown hK hP 0 rfl rfl 44 (by decide) (hts _ mm_X12_readSaid_1) (fun _ hh => hh) rfl dX12_readSaid_72 ?_
        refine zz_top (v := (nI go)) (by show st 0 44 = _; rw [h44]) ?_
        refine lv_iconst (v := 1) hx hb dX12_readSaid_75 (by decide) ?_
        refine lv_iadd hx hb dX12_readSaid_76 ?_
        refine zz_top (v := nI (go + 1)) (nI_add go 1) ?_
        refine va_put (D := (dC, dI)) (ci := 11) (v := .int (nI (go + 1))) (ty := .int) (C := RX12) (T := TX12) (N := 47) hx hb hts ii_X12_readSaid tyX12 tyX12_ok nmX12 hown hK hP (mD hN _ _ _ _) hS 0 rfl rfl 44 (by decide) (hts _ mm_X12_readSaid_1) (fun _ hh => hh) rfl (by decide +kernel) rfl rfl (Nat.le_of_ble_eq_true rfl) dX12_readSaid_77 (fun H locs hP _ hS => ?_)
        have hP : va_P (dC, dI) vwCl (mw ar cy (up2 st 0 44 (nI (go + 1))) sl) H := hP
        obtain ⟨st15, est15⟩ : ∃ y, y = up2 st 0 44 (nI (go + 1)) := ⟨_, rfl⟩
        have hG : MG [1, 2, 3, 6, 7, 13, 14, 15, 20, 21, 22] st st15 := by rw [est15]; exact hG.up (rn (n := (go + 1)) (by decide : mr 0 44 = 21) (by omega)) (pn (by decide : pcl 0 44 = 10) (by decide))
        rw [← est15] at hP
        have hF : FM 6 st sl st15 sl := by rw [est15]; exact hF.up (by decide)
        have hT : TM B g m p st15 sl := by rw [est15]; exact hT.up (by omega)
        have hR : RN c nm st15 sl := by rw [est15]; exact hR.up (by omega)
        refine lv_aload_n hx hb dX12_readSaid_80 rfl (lv_at hl 2 rfl) ?_
        refine lv_dup hx hb dX12_readSaid_81 rfl ?_
        refine va_get (D := (dC, dI)) (ci := 11) (v := .int (st15 0 45)) (C := RX12) (T := TX12) (N := 47) hx hb hts ii_X12_readSaid hown hK hP 0 rfl rfl 45 (by decide) (hts _ mm_X12_readSaid_2) (fun _ hh => hh) rfl dX12_readSaid_82 ?_
        refine zz_top (v := 0) (by show st15 0 45 = _; rw [est15, up2_ne (r := 0) (k := 44) (a := 0) (j := 45) _ _ (by omega), h45]) ?_
        refine lv_iconst (v := 1) hx hb dX12_readSaid_85 (by decide) ?_
        refine lv_iadd hx hb dX12_readSaid_86 ?_
        refine zz_top (v := 1) (by decide) ?_
        refine va_put (D := (dC, dI)) (ci := 11) (v := .int 1) (ty := .int) (C := RX12) (T := TX12) (N := 47) hx hb hts ii_X12_readSaid tyX12 tyX12_ok nmX12 hown hK hP (mD hN _ _ _ _) hS 0 rfl rfl 45 (by decide) (hts _ mm_X12_readSaid_2) (fun _ hh => hh) rfl (by decide +kernel) rfl rfl (Nat.le_of_ble_eq_true rfl) dX12_readSaid_87 (fun H locs hP _ hS => ?_)
        have hP : va_P (dC, dI) vwCl (mw ar cy (up2 st15 0 45 1) sl) H := hP
        obtain ⟨st16, est16⟩ : ∃ y, y = up2 st15 0 45 1 := ⟨_, rfl⟩
        have hG : MG [1, 2, 3, 6, 7, 13, 14, 15, 20, 21, 22] st st16 := by rw [est16]; exact hG.up (rn (n := 1) (by decide : mr 0 45 = 9) (by omega)) (pn (by decide : pcl 0 45 = 11) (by decide))
        rw [← est16] at hP
        have hF : FM 6 st sl st16 sl := by rw [est16]; exact hF.up (by decide)
        have hT : TM B g m p st16 sl := by rw [est16]; exact hT.up (by omega)
        have hR : RN c nm st16 sl := by rw [est16]; exact hR.up (by omega)
        refine lv_aload_n hx hb dX12_readSaid_90 rfl (lv_at hl 2 rfl) ?_
        refine va_callv (va_runV (As := []) (rest := []) ⟨hx, hb, hml, hown, hts⟩ (f_go l dC dI ar cy _ hN st16 sl B g m (tkx B g m p) hG.1 (MBt.fr hB hF) hT.1 hk2.2) (cwV 0 hts gX12_readSaid_X12_go rfl rfl rfl (by decide +kernel) ⟨Nat.le_of_ble_eq_true rfl, Nat.le_of_ble_eq_true rfl⟩) ⟨fun a U g mk q => ⟨q.1, mPre.blind q.2⟩, va_recv hK hP (ci := 11) (q0 := 0) rfl rfl, fun U hU hW => ⟨rfl, mPre.of hP hK hU hW⟩⟩ rfl rfl hl.1 rfl (lv_room (Nat.le_of_ble_eq_true rfl)) dX12_readSaid_91 ⟨Nat.le_of_ble_eq_true rfl, Nat.le_of_ble_eq_true rfl⟩) hS (fun q _ h => MA.le hS.1 q h) (MA.le hS.1) (fun x t H locs ht hvm hw hB9 _ _ hS => ?_)
        have hP := mB.at ht hB9
        clear hB9 ht hvm
        obtain ⟨st18, sl19⟩ := x
        obtain ⟨hG2, hF2, hw⟩ := hw
        dsimp only at hG2 hF2 hw
        have hP : va_P (dC, dI) vwCl (mw ar cy st18 sl19) _ := hP
        have hG : MG [1, 2, 3, 6, 7, 13, 14, 15, 20, 21, 22] st st18 := hG.tr hG2 (by decide)
        have hFst18 : FM 1 st16 sl st18 sl19 := hF2
        have hF : FM 6 st sl st18 sl19 := hF.tr hFst18 (by omega) (by omega)
        clear hG2 hF2
        have hR : RN c nm st18 sl19 := hR.fr hFst18
        have hT := hw
        have hp9 := hT.2.2.2.2.2.2
        have hk1 := tkd_lt (B := B) (g := g) (m := m) (p := (tkx B g m p))
        have hk2 := tkx_le (B := B) (g := g) (m := m) (p := (tkx B g m p)) hp9
        have hk3 := tka_le (B := B) (g := g) (m := m) (p := (tkx B g m p)) hp9 hB.2.2.1
        have hk4 := tkv_lt (p := (tkx B g m p)) hB hp9
        have hk5 := tkw_lt (B := B) (g := g) (m := m) (p := (tkx B g m p))
        refine lv_iconst (v := 1) hx hb dX12_readSaid_94 (by decide) ?_
        refine lv_istore_n (lv' := [(3, .int 1), (2, .int (nI k5)), (1, .int 1), (0, .ref (ar 0))]) hx hb dX12_readSaid_95 rfl hl (by decide) rfl (fun ls hl => ?_)
        refine lv_iload_n hx hb dX12_readSaid_96 rfl (lv_at hl 2 rfl) ?_
        refine lv_if_eq (tgt := 108) hx hb dX12_readSaid_97 (by decide) (fun cc => absurd cc (by decide)) (fun _ => ?_)
        refine lv_aload_n hx hb dX12_readSaid_100 rfl (lv_at hl 3 rfl) ?_
        refine va_calli (va_runV (As := []) (rest := []) ⟨hx, hb, hml, hown, hts⟩ (f_readBracket_1 l dC dI ar cy _ hN st18 sl19 B g m (tkx B g m p) c nm gn (go + 1) hG.1 (MBt.fr hB hF) hT hR (by rw [(hFst18 0 43 (by decide)).1, est16, up2_ne (r := 0) (k := 45) (a := 0) (j := 43) _ _ (by omega), est15, up2_ne (r := 0) (k := 44) (a := 0) (j := 43) _ _ (by omega), h43]) (by rw [(hFst18 0 44 (by decide)).1, est16, up2_ne (r := 0) (k := 45) (a := 0) (j := 44) _ _ (by omega), est15, up2_same]) (by rw [(hFst18 0 45 (by decide)).1, est16, up2_same]) (by omega) (by omega)) (cwV 0 hts gX12_readSaid_X12_readBracket rfl rfl rfl (by decide +kernel) ⟨Nat.le_of_ble_eq_true rfl, Nat.le_of_ble_eq_true rfl⟩) ⟨fun a U g mk q => ⟨q.1, mPre.blind q.2⟩, va_recv hK hP (ci := 11) (q0 := 0) rfl rfl, fun U hU hW => ⟨rfl, mPre.of hP hK hU hW⟩⟩ rfl rfl hl.1 rfl (lv_room (Nat.le_of_ble_eq_true rfl)) dX12_readSaid_101 ⟨Nat.le_of_ble_eq_true rfl, Nat.le_of_ble_eq_true rfl⟩) hS (fun q _ h => MA.le hS.1 q h) (MA.le hS.1) (fun r20 x t H locs ht hvm hw hB9 _ _ hS => ?_)
        have hP := mB.at ht hB9
        clear hB9 ht hvm
        obtain ⟨st21, sl22⟩ := x
        obtain ⟨hG2, hF2, hw⟩ := hw
        dsimp only at hG2 hF2 hw
        have hP : va_P (dC, dI) vwCl (mw ar cy st21 sl22) _ := hP
        have hG : MG [1, 2, 3, 6, 7, 13, 14, 15, 20, 21, 22] st st21 := hG.tr hG2 (by decide)
        have hFst21 : FM 6 st18 sl19 st21 sl22 := hF2
        have hF : FM 6 st sl st21 sl22 := hF.tr hFst21 (by omega) (by omega)
        clear hG2 hF2
        have hR : RN c nm st21 sl22 := hR.fr hFst21
        rcases hw with ⟨n23, n24, n25, n26, rfl, hT, hf27, hf28, hf29, hf30, hf31, hf32, hf33, hf34, hf35, hf36, hk37⟩ | ⟨n38, n39, rfl, hf40, hf41, hf42, hf43, hf44⟩
        · have hp9 := hT.2.2.2.2.2.2
          have hk1 := tkd_lt (B := B) (g := g) (m := m) (p := n23)
          have hk2 := tkx_le (B := B) (g := g) (m := m) (p := n23) hp9
          have hk3 := tka_le (B := B) (g := g) (m := m) (p := n23) hp9 hB.2.2.1
          have hk4 := tkv_lt (p := n23) hB hp9
          have hk5 := tkw_lt (B := B) (g := g) (m := m) (p := n23)
          refine lv_istore_n (lv' := [(3, .int 1), (2, .int (nI k5)), (1, .int 1), (0, .ref (ar 0))]) hx hb dX12_readSaid_104 rfl hl (by decide) rfl (fun ls hl => ?_)
          refine lv_goto (tgt := 166) hx hb dX12_readSaid_105 (by decide) ?_
          refine lv_aload_n hx hb dX12_readSaid_166 rfl (lv_at hl 3 rfl) ?_
          refine lv_dup hx hb dX12_readSaid_167 rfl ?_
          refine va_get (D := (dC, dI)) (ci := 11) (v := .int (st21 0 45)) (C := RX12) (T := TX12) (N := 47) hx hb hts ii_X12_readSaid hown hK hP 0 rfl rfl 45 (by decide) (hts _ mm_X12_readSaid_2) (fun _ hh => hh) rfl dX12_readSaid_168 ?_
          refine zz_top (v := 1) (by show st21 0 45 = _; rw [hf29]) ?_
          refine lv_iconst (v := 1) hx hb dX12_readSaid_171 (by decide) ?_
          refine lv_isub hx hb dX12_readSaid_172 ?_
          refine zz_top (v := 0) (by decide) ?_
          refine va_put (D := (dC, dI)) (ci := 11) (v := .int 0) (ty := .int) (C := RX12) (T := TX12) (N := 47) hx hb hts ii_X12_readSaid tyX12 tyX12_ok nmX12 hown hK hP (mD hN _ _ _ _) hS 0 rfl rfl 45 (by decide) (hts _ mm_X12_readSaid_2) (fun _ hh => hh) rfl (by decide +kernel) rfl rfl (Nat.le_of_ble_eq_true rfl) dX12_readSaid_173 (fun H locs hP _ hS => ?_)
          have hP : va_P (dC, dI) vwCl (mw ar cy (up2 st21 0 45 0) sl22) H := hP
          obtain ⟨st45, est45⟩ : ∃ y, y = up2 st21 0 45 0 := ⟨_, rfl⟩
          have hG : MG [1, 2, 3, 6, 7, 13, 14, 15, 20, 21, 22] st st45 := by rw [est45]; exact hG.up (r0) (pn (by decide : pcl 0 45 = 11) (by decide))
          rw [← est45] at hP
          have hF : FM 6 st sl st45 sl22 := by rw [est45]; exact hF.up (by decide)
          have hT : TM B g m n23 st45 sl22 := by rw [est45]; exact hT.up (by omega)
          have hR : RN c nm st45 sl22 := by rw [est45]; exact hR.up (by omega)
          refine lv_iload_n hx hb dX12_readSaid_176 rfl (lv_at hl 0 rfl) ?_
          exact W.zret (v := 1) hx hb hr rfl (fun t ht hW => ⟨⟨1, (st45, sl22), rfl, ⟨hG, hF, Or.inl (⟨n23, n24, n25, n26, rfl, hT, by show st45 0 43 = _; rw [est45, up2_ne (r := 0) (k := 45) (a := 0) (j := 43) _ _ (by omega), hf27], by show st45 0 44 = _; rw [est45, up2_ne (r := 0) (k := 45) (a := 0) (j := 44) _ _ (by omega), hf28], by show st45 0 45 = _; rw [est45, up2_same], by show st45 0 46 = _; rw [est45, up2_ne (r := 0) (k := 45) (a := 0) (j := 46) _ _ (by omega), hf30], by omega, by omega, by omega, by omega, by omega, (sO_i (d := 7) (Or.inl ⟨hf2, hf3⟩) (by omega)).trans ((sIn_b ⟨hf2, hf3⟩).trans hf36), by show st45 0 10 = st 0 10; rw [est45, up2_ne (r := 0) (k := 45) (a := 0) (j := 10) _ _ (by omega), hk37, (hFst18 0 10 (by decide)).1, est16, up2_ne (r := 0) (k := 45) (a := 0) (j := 10) _ _ (by omega), est15, up2_ne (r := 0) (k := 44) (a := 0) (j := 10) _ _ (by omega)]⟩)⟩, mB.of ht hP⟩, hS.F ht⟩) hS.2.2 dX12_readSaid_177
        · refine lv_istore_n (lv' := [(3, .int 0), (2, .int (nI k5)), (1, .int 1), (0, .ref (ar 0))]) hx hb dX12_readSaid_104 rfl hl (by decide) rfl (fun ls hl => ?_)
          refine lv_goto (tgt := 166) hx hb dX12_readSaid_105 (by decide) ?_
          refine lv_aload_n hx hb dX12_readSaid_166 rfl (lv_at hl 3 rfl) ?_
          refine lv_dup hx hb dX12_readSaid_167 rfl ?_
          refine va_get (D := (dC, dI)) (ci := 11) (v := .int (st21 0 45)) (C := RX12) (T := TX12) (N := 47) hx hb hts ii_X12_readSaid hown hK hP 0 rfl rfl 45 (by decide) (hts _ mm_X12_readSaid_2) (fun _ hh => hh) rfl dX12_readSaid_168 ?_
          refine zz_top (v := 1) (by show st21 0 45 = _; rw [hf44]) ?_
          refine lv_iconst (v := 1) hx hb dX12_readSaid_171 (by decide) ?_
          refine lv_isub hx hb dX12_readSaid_172 ?_
          refine zz_top (v := 0) (by decide) ?_
          refine va_put (D := (dC, dI)) (ci := 11) (v := .int 0) (ty := .int) (C := RX12) (T := TX12) (N := 47) hx hb hts ii_X12_readSaid tyX12 tyX12_ok nmX12 hown hK hP (mD hN _ _ _ _) hS 0 rfl rfl 45 (by decide) (hts _ mm_X12_readSaid_2) (fun _ hh => hh) rfl (by decide +kernel) rfl rfl (Nat.le_of_ble_eq_true rfl) dX12_readSaid_173 (fun H locs hP _ hS => ?_)
          have hP : va_P (dC, dI) vwCl (mw ar cy (up2 st21 0 45 0) sl22) H := hP
          obtain ⟨st46, est46⟩ : ∃ y, y = up2 st21 0 45 0 := ⟨_, rfl⟩
          have hG : MG [1, 2, 3, 6, 7, 13, 14, 15, 20, 21, 22] st st46 := by rw [est46]; exact hG.up (r0) (pn (by decide : pcl 0 45 = 11) (by decide))
          rw [← est46] at hP
          have hF : FM 6 st sl st46 sl22 := by rw [est46]; exact hF.up (by decide)
          have hR : RN c nm st46 sl22 := by rw [est46]; exact hR.up (by omega)
          refine lv_iload_n hx hb dX12_readSaid_176 rfl (lv_at hl 0 rfl) ?_
          exact W.zret (v := 0) hx hb hr rfl (fun t ht hW => ⟨⟨0, (st46, sl22), rfl, ⟨hG, hF, Or.inr (⟨n38, n39, rfl, by show st46 0 10 = _; rw [est46, up2_ne (r := 0) (k := 45) (a := 0) (j := 10) _ _ (by omega), hf40], by show st46 0 11 = _; rw [est46, up2_ne (r := 0) (k := 45) (a := 0) (j := 11) _ _ (by omega), hf41], hf42, (sO_i (d := 7) (Or.inl ⟨hf2, hf3⟩) (by omega)).trans ((sIn_b ⟨hf2, hf3⟩).trans hf43), by show st46 0 45 = _; rw [est46, up2_same]⟩)⟩, mB.of ht hP⟩, hS.F ht⟩) hS.2.2 dX12_readSaid_177
    · have c1 : ¬ 23 < k5 := fun hh => c1 ((nI_ltI (a := 23) (b := k5) (by omega) (by omega)).mpr hh)
      refine lv_aload_n hx hb dX12_readSaid_16 rfl (lv_at hl 2 rfl) ?_
      refine lv_iload_n hx hb dX12_readSaid_17 rfl (lv_at hl 0 rfl) ?_
      refine va_calli (va_runV (As := [.int (nI k5)]) (rest := []) ⟨hx, hb, hml, hown, hts⟩ (f_isWordN l dC dI ar cy _ hN st sl k5 B g m p (by omega) (by omega) hG.1 (MBt.fr hB hF) hT) (cwV 1 hts gX12_readSaid_X12_isWord rfl rfl rfl (by decide +kernel) ⟨Nat.le_of_ble_eq_true rfl, Nat.le_of_ble_eq_true rfl⟩) ⟨fun a U g mk q => ⟨q.1, mPre.blind q.2⟩, va_recv hK hP (ci := 11) (q0 := 0) rfl rfl, fun U hU hW => ⟨rfl, mPre.of hP hK hU hW⟩⟩ rfl rfl hl.1 rfl (lv_room (Nat.le_of_ble_eq_true rfl)) dX12_readSaid_18 ⟨Nat.le_of_ble_eq_true rfl, Nat.le_of_ble_eq_true rfl⟩) hS (fun q _ h => MA.le hS.1 q h) (MA.le hS.1) (fun r47 x t H locs ht hvm hw hB9 _ _ hS => ?_)
      have hP := mB.at ht hB9
      clear hB9 ht hvm
      obtain ⟨rfl, hw⟩ := hw
      have hP : va_P (dC, dI) vwCl (mw ar cy st sl) _ := hP
      rcases hw with ⟨rfl, hf48⟩ | ⟨rfl, hf49⟩
      · refine lv_if_ne (tgt := 30) hx hb dX12_readSaid_21 (by decide) (fun _ => ?_) (fun cc => absurd cc (by decide))
        refine lv_iload_n hx hb dX12_readSaid_30 rfl (lv_at hl 1 rfl) ?_
        refine lv_if_ne (tgt := 46) hx hb dX12_readSaid_31 (by decide) (fun _ => ?_) (fun cc => absurd cc (by decide))
        refine lv_aload_n hx hb dX12_readSaid_46 rfl (lv_at hl 2 rfl) ?_
        refine va_get (D := (dC, dI)) (ci := 11) (v := .int (st 0 44)) (C := RX12) (T := TX12) (N := 47) hx hb hts ii_X12_readSaid hown hK hP 0 rfl rfl 44 (by decide) (hts _ mm_X12_readSaid_1) (fun _ hh => hh) rfl dX12_readSaid_47 ?_
        refine zz_top (v := (nI go)) (by show st 0 44 = _; rw [h44]) ?_
        refine lv_bipush (v := 20) hx hb dX12_readSaid_50 (by decide) ?_
        refine lv_icmp_eq (tgt := 64) hx hb dX12_readSaid_52 (by decide) (fun c8 => ?_) (fun c8 => ?_)
        · have c8 : go = 20 := (nI_eq (a := go) (b := 20) (by omega) (by omega)).mp c8
          refine lv_aload_n hx hb dX12_readSaid_64 rfl (lv_at hl 2 rfl) ?_
          refine lv_iconst (v := 4) hx hb dX12_readSaid_65 (by decide) ?_
          refine va_calli (va_runV (As := [.int 4]) (rest := []) ⟨hx, hb, hml, hown, hts⟩ (f_bad l dC dI ar cy _ hN st sl 4 B g m p (by omega) hG.1 (MBt.fr hB hF) hT) (cwV 1 hts gX12_readSaid_X12_bad rfl rfl rfl (by decide +kernel) ⟨Nat.le_of_ble_eq_true rfl, Nat.le_of_ble_eq_true rfl⟩) ⟨fun a U g mk q => ⟨q.1, mPre.blind q.2⟩, va_recv hK hP (ci := 11) (q0 := 0) rfl rfl, fun U hU hW => ⟨rfl, mPre.of hP hK hU hW⟩⟩ rfl rfl hl.1 rfl (lv_room (Nat.le_of_ble_eq_true rfl)) dX12_readSaid_66 ⟨Nat.le_of_ble_eq_true rfl, Nat.le_of_ble_eq_true rfl⟩) hS (fun q _ h => MA.le hS.1 q h) (MA.le hS.1) (fun r50 x t H locs ht hvm hw hB9 _ _ hS => ?_)
          have hP := mB.at ht hB9
          clear hB9 ht hvm
          obtain ⟨st51, sl52⟩ := x
          obtain ⟨hG2, hF2, hw⟩ := hw
          dsimp only at hG2 hF2 hw
          have hP : va_P (dC, dI) vwCl (mw ar cy st51 sl52) _ := hP
          have hG : MG [1, 2, 3, 6, 7, 13, 14, 15, 20, 21, 22] st st51 := hG.tr hG2 (by decide)
          have hFst51 : FM 2 st sl st51 sl52 := hF2
          have hF : FM 6 st sl st51 sl52 := hF.tr hFst51 (by omega) (by omega)
          clear hG2 hF2
          have hR : RN c nm st51 sl52 := hR.fr hFst51
          obtain ⟨rfl, hf53, hf54, hT⟩ := hw
          have hp9 := hT.2.2.2.2.2.2
          have hk1 := tkd_lt (B := B) (g := g) (m := m) (p := p)
          have hk2 := tkx_le (B := B) (g := g) (m := m) (p := p) hp9
          have hk3 := tka_le (B := B) (g := g) (m := m) (p := p) hp9 hB.2.2.1
          have hk4 := tkv_lt (p := p) hB hp9
          have hk5 := tkw_lt (B := B) (g := g) (m := m) (p := p)
          exact W.zret (v := 0) hx hb hr rfl (fun t ht hW => ⟨⟨0, (st51, sl52), rfl, ⟨hG, hF, Or.inr (⟨4, (tka B g m p), rfl, by show st51 0 10 = _; rw [hf53, bdk_n (by have h9 := @tkw_d B g m p; omega)], by show st51 0 11 = _; rw [hf54], by omega, sO_4 (Or.inl ⟨hf2, hf3⟩) (Or.inr (by omega)), by show st51 0 45 = _; rw [(hFst51 0 45 (by decide)).1, h45]⟩)⟩, mB.of ht hP⟩, hS.F ht⟩) hS.2.2 dX12_readSaid_69
        · have c8 : ¬ go = 20 := fun hh => c8 ((nI_eq (a := go) (b := 20) (by omega) (by omega)).mpr hh)
          refine lv_aload_n hx hb dX12_readSaid_55 rfl (lv_at hl 2 rfl) ?_
          refine va_get (D := (dC, dI)) (ci := 11) (v := .int (st 0 45)) (C := RX12) (T := TX12) (N := 47) hx hb hts ii_X12_readSaid hown hK hP 0 rfl rfl 45 (by decide) (hts _ mm_X12_readSaid_2) (fun _ hh => hh) rfl dX12_readSaid_56 ?_
          refine zz_top (v := 0) (by show st 0 45 = _; rw [h45]) ?_
          refine lv_bipush (v := 8) hx hb dX12_readSaid_59 (by decide) ?_
          refine lv_icmp_ne (tgt := 70) hx hb dX12_readSaid_61 (by decide) (fun _ => ?_) (fun cc => absurd cc (by decide))
          refine lv_aload_n hx hb dX12_readSaid_70 rfl (lv_at hl 2 rfl) ?_
          refine lv_dup hx hb dX12_readSaid_71 rfl ?_
          refine va_get (D := (dC, dI)) (ci := 11) (v := .int (st 0 44)) (C := RX12) (T := TX12) (N := 47) hx hb hts ii_X12_readSaid hown hK hP 0 rfl rfl 44 (by decide) (hts _ mm_X12_readSaid_1) (fun _ hh => hh) rfl dX12_readSaid_72 ?_
          refine zz_top (v := (nI go)) (by show st 0 44 = _; rw [h44]) ?_
          refine lv_iconst (v := 1) hx hb dX12_readSaid_75 (by decide) ?_
          refine lv_iadd hx hb dX12_readSaid_76 ?_
          refine zz_top (v := nI (go + 1)) (nI_add go 1) ?_
          refine va_put (D := (dC, dI)) (ci := 11) (v := .int (nI (go + 1))) (ty := .int) (C := RX12) (T := TX12) (N := 47) hx hb hts ii_X12_readSaid tyX12 tyX12_ok nmX12 hown hK hP (mD hN _ _ _ _) hS 0 rfl rfl 44 (by decide) (hts _ mm_X12_readSaid_1) (fun _ hh => hh) rfl (by decide +kernel) rfl rfl (Nat.le_of_ble_eq_true rfl) dX12_readSaid_77 (fun H locs hP _ hS => ?_)
          have hP : va_P (dC, dI) vwCl (mw ar cy (up2 st 0 44 (nI (go + 1))) sl) H := hP
          obtain ⟨st55, est55⟩ : ∃ y, y = up2 st 0 44 (nI (go + 1)) := ⟨_, rfl⟩
          have hG : MG [1, 2, 3, 6, 7, 13, 14, 15, 20, 21, 22] st st55 := by rw [est55]; exact hG.up (rn (n := (go + 1)) (by decide : mr 0 44 = 21) (by omega)) (pn (by decide : pcl 0 44 = 10) (by decide))
          rw [← est55] at hP
          have hF : FM 6 st sl st55 sl := by rw [est55]; exact hF.up (by decide)
          have hT : TM B g m p st55 sl := by rw [est55]; exact hT.up (by omega)
          have hR : RN c nm st55 sl := by rw [est55]; exact hR.up (by omega)
          refine lv_aload_n hx hb dX12_readSaid_80 rfl (lv_at hl 2 rfl) ?_
          refine lv_dup hx hb dX12_readSaid_81 rfl ?_
          refine va_get (D := (dC, dI)) (ci := 11) (v := .int (st55 0 45)) (C := RX12) (T := TX12) (N := 47) hx hb hts ii_X12_readSaid hown hK hP 0 rfl rfl 45 (by decide) (hts _ mm_X12_readSaid_2) (fun _ hh => hh) rfl dX12_readSaid_82 ?_
          refine zz_top (v := 0) (by show st55 0 45 = _; rw [est55, up2_ne (r := 0) (k := 44) (a := 0) (j := 45) _ _ (by omega), h45]) ?_
          refine lv_iconst (v := 1) hx hb dX12_readSaid_85 (by decide) ?_
          refine lv_iadd hx hb dX12_readSaid_86 ?_
          refine zz_top (v := 1) (by decide) ?_
          refine va_put (D := (dC, dI)) (ci := 11) (v := .int 1) (ty := .int) (C := RX12) (T := TX12) (N := 47) hx hb hts ii_X12_readSaid tyX12 tyX12_ok nmX12 hown hK hP (mD hN _ _ _ _) hS 0 rfl rfl 45 (by decide) (hts _ mm_X12_readSaid_2) (fun _ hh => hh) rfl (by decide +kernel) rfl rfl (Nat.le_of_ble_eq_true rfl) dX12_readSaid_87 (fun H locs hP _ hS => ?_)
          have hP : va_P (dC, dI) vwCl (mw ar cy (up2 st55 0 45 1) sl) H := hP
          obtain ⟨st56, est56⟩ : ∃ y, y = up2 st55 0 45 1 := ⟨_, rfl⟩
          have hG : MG [1, 2, 3, 6, 7, 13, 14, 15, 20, 21, 22] st st56 := by rw [est56]; exact hG.up (rn (n := 1) (by decide : mr 0 45 = 9) (by omega)) (pn (by decide : pcl 0 45 = 11) (by decide))
          rw [← est56] at hP
          have hF : FM 6 st sl st56 sl := by rw [est56]; exact hF.up (by decide)
          have hT : TM B g m p st56 sl := by rw [est56]; exact hT.up (by omega)
          have hR : RN c nm st56 sl := by rw [est56]; exact hR.up (by omega)
          refine lv_aload_n hx hb dX12_readSaid_90 rfl (lv_at hl 2 rfl) ?_
          refine va_callv (va_runV (As := []) (rest := []) ⟨hx, hb, hml, hown, hts⟩ (f_go l dC dI ar cy _ hN st56 sl B g m (tkx B g m p) hG.1 (MBt.fr hB hF) hT.1 hk2.2) (cwV 0 hts gX12_readSaid_X12_go rfl rfl rfl (by decide +kernel) ⟨Nat.le_of_ble_eq_true rfl, Nat.le_of_ble_eq_true rfl⟩) ⟨fun a U g mk q => ⟨q.1, mPre.blind q.2⟩, va_recv hK hP (ci := 11) (q0 := 0) rfl rfl, fun U hU hW => ⟨rfl, mPre.of hP hK hU hW⟩⟩ rfl rfl hl.1 rfl (lv_room (Nat.le_of_ble_eq_true rfl)) dX12_readSaid_91 ⟨Nat.le_of_ble_eq_true rfl, Nat.le_of_ble_eq_true rfl⟩) hS (fun q _ h => MA.le hS.1 q h) (MA.le hS.1) (fun x t H locs ht hvm hw hB9 _ _ hS => ?_)
          have hP := mB.at ht hB9
          clear hB9 ht hvm
          obtain ⟨st58, sl59⟩ := x
          obtain ⟨hG2, hF2, hw⟩ := hw
          dsimp only at hG2 hF2 hw
          have hP : va_P (dC, dI) vwCl (mw ar cy st58 sl59) _ := hP
          have hG : MG [1, 2, 3, 6, 7, 13, 14, 15, 20, 21, 22] st st58 := hG.tr hG2 (by decide)
          have hFst58 : FM 1 st56 sl st58 sl59 := hF2
          have hF : FM 6 st sl st58 sl59 := hF.tr hFst58 (by omega) (by omega)
          clear hG2 hF2
          have hR : RN c nm st58 sl59 := hR.fr hFst58
          have hT := hw
          have hp9 := hT.2.2.2.2.2.2
          have hk1 := tkd_lt (B := B) (g := g) (m := m) (p := (tkx B g m p))
          have hk2 := tkx_le (B := B) (g := g) (m := m) (p := (tkx B g m p)) hp9
          have hk3 := tka_le (B := B) (g := g) (m := m) (p := (tkx B g m p)) hp9 hB.2.2.1
          have hk4 := tkv_lt (p := (tkx B g m p)) hB hp9
          have hk5 := tkw_lt (B := B) (g := g) (m := m) (p := (tkx B g m p))
          refine lv_iconst (v := 1) hx hb dX12_readSaid_94 (by decide) ?_
          refine lv_istore_n (lv' := [(3, .int 1), (2, .int (nI k5)), (1, .int 1), (0, .ref (ar 0))]) hx hb dX12_readSaid_95 rfl hl (by decide) rfl (fun ls hl => ?_)
          refine lv_iload_n hx hb dX12_readSaid_96 rfl (lv_at hl 2 rfl) ?_
          refine lv_if_eq (tgt := 108) hx hb dX12_readSaid_97 (by decide) (fun cc => absurd cc (by decide)) (fun _ => ?_)
          refine lv_aload_n hx hb dX12_readSaid_100 rfl (lv_at hl 3 rfl) ?_
          refine va_calli (va_runV (As := []) (rest := []) ⟨hx, hb, hml, hown, hts⟩ (f_readBracket_1 l dC dI ar cy _ hN st58 sl59 B g m (tkx B g m p) c nm gn (go + 1) hG.1 (MBt.fr hB hF) hT hR (by rw [(hFst58 0 43 (by decide)).1, est56, up2_ne (r := 0) (k := 45) (a := 0) (j := 43) _ _ (by omega), est55, up2_ne (r := 0) (k := 44) (a := 0) (j := 43) _ _ (by omega), h43]) (by rw [(hFst58 0 44 (by decide)).1, est56, up2_ne (r := 0) (k := 45) (a := 0) (j := 44) _ _ (by omega), est55, up2_same]) (by rw [(hFst58 0 45 (by decide)).1, est56, up2_same]) (by omega) (by omega)) (cwV 0 hts gX12_readSaid_X12_readBracket rfl rfl rfl (by decide +kernel) ⟨Nat.le_of_ble_eq_true rfl, Nat.le_of_ble_eq_true rfl⟩) ⟨fun a U g mk q => ⟨q.1, mPre.blind q.2⟩, va_recv hK hP (ci := 11) (q0 := 0) rfl rfl, fun U hU hW => ⟨rfl, mPre.of hP hK hU hW⟩⟩ rfl rfl hl.1 rfl (lv_room (Nat.le_of_ble_eq_true rfl)) dX12_readSaid_101 ⟨Nat.le_of_ble_eq_true rfl, Nat.le_of_ble_eq_true rfl⟩) hS (fun q _ h => MA.le hS.1 q h) (MA.le hS.1) (fun r60 x t H locs ht hvm hw hB9 _ _ hS => ?_)
          have hP := mB.at ht hB9
          clear hB9 ht hvm
          obtain ⟨st61, sl62⟩ := x
          obtain ⟨hG2, hF2, hw⟩ := hw
          dsimp only at hG2 hF2 hw
          have hP : va_P (dC, dI) vwCl (mw ar cy st61 sl62) _ := hP
          have hG : MG [1, 2, 3, 6, 7, 13, 14, 15, 20, 21, 22] st st61 := hG.tr hG2 (by decide)
          have hFst61 : FM 6 st58 sl59 st61 sl62 := hF2
          have hF : FM 6 st sl st61 sl62 := hF.tr hFst61 (by omega) (by omega)
          clear hG2 hF2
          have hR : RN c nm st61 sl62 := hR.fr hFst61
          rcases hw with ⟨n63, n64, n65, n66, rfl, hT, hf67, hf68, hf69, hf70, hf71, hf72, hf73, hf74, hf75, hf76, hk77⟩ | ⟨n78, n79, rfl, hf80, hf81, hf82, hf83, hf84⟩
          · have hp9 := hT.2.2.2.2.2.2
            have hk1 := tkd_lt (B := B) (g := g) (m := m) (p := n63)
            have hk2 := tkx_le (B := B) (g := g) (m := m) (p := n63) hp9
            have hk3 := tka_le (B := B) (g := g) (m := m) (p := n63) hp9 hB.2.2.1
            have hk4 := tkv_lt (p := n63) hB hp9
            have hk5 := tkw_lt (B := B) (g := g) (m := m) (p := n63)
            refine lv_istore_n (lv' := [(3, .int 1), (2, .int (nI k5)), (1, .int 1), (0, .ref (ar 0))]) hx hb dX12_readSaid_104 rfl hl (by decide) rfl (fun ls hl => ?_)
            refine lv_goto (tgt := 166) hx hb dX12_readSaid_105 (by decide) ?_
            refine lv_aload_n hx hb dX12_readSaid_166 rfl (lv_at hl 3 rfl) ?_
            refine lv_dup hx hb dX12_readSaid_167 rfl ?_
            refine va_get (D := (dC, dI)) (ci := 11) (v := .int (st61 0 45)) (C := RX12) (T := TX12) (N := 47) hx hb hts ii_X12_readSaid hown hK hP 0 rfl rfl 45 (by decide) (hts _ mm_X12_readSaid_2) (fun _ hh => hh) rfl dX12_readSaid_168 ?_
            refine zz_top (v := 1) (by show st61 0 45 = _; rw [hf69]) ?_
            refine lv_iconst (v := 1) hx hb dX12_readSaid_171 (by decide) ?_
            refine lv_isub hx hb dX12_readSaid_172 ?_
            refine zz_top (v := 0) (by decide) ?_
            refine va_put (D := (dC, dI)) (ci := 11) (v := .int 0) (ty := .int) (C := RX12) (T := TX12) (N := 47) hx hb hts ii_X12_readSaid tyX12 tyX12_ok nmX12 hown hK hP (mD hN _ _ _ _) hS 0 rfl rfl 45 (by decide) (hts _ mm_X12_readSaid_2) (fun _ hh => hh) rfl (by decide +kernel) rfl rfl (Nat.le_of_ble_eq_true rfl) dX12_readSaid_173 (fun H locs hP _ hS => ?_)
            have hP : va_P (dC, dI) vwCl (mw ar cy (up2 st61 0 45 0) sl62) H := hP
            obtain ⟨st85, est85⟩ : ∃ y, y = up2 st61 0 45 0 := ⟨_, rfl⟩
            have hG : MG [1, 2, 3, 6, 7, 13, 14, 15, 20, 21, 22] st st85 := by rw [est85]; exact hG.up (r0) (pn (by decide : pcl 0 45 = 11) (by decide))
            rw [← est85] at hP
            have hF : FM 6 st sl st85 sl62 := by rw [est85]; exact hF.up (by decide)
            have hT : TM B g m n63 st85 sl62 := by rw [est85]; exact hT.up (by omega)
            have hR : RN c nm st85 sl62 := by rw [est85]; exact hR.up (by omega)
            refine lv_iload_n hx hb dX12_readSaid_176 rfl (lv_at hl 0 rfl) ?_
            exact W.zret (v := 1) hx hb hr rfl (fun t ht hW => ⟨⟨1, (st85, sl62), rfl, ⟨hG, hF, Or.inl (⟨n63, n64, n65, n66, rfl, hT, by show st85 0 43 = _; rw [est85, up2_ne (r := 0) (k := 45) (a := 0) (j := 43) _ _ (by omega), hf67], by show st85 0 44 = _; rw [est85, up2_ne (r := 0) (k := 45) (a := 0) (j := 44) _ _ (by omega), hf68], by show st85 0 45 = _; rw [est85, up2_same], by show st85 0 46 = _; rw [est85, up2_ne (r := 0) (k := 45) (a := 0) (j := 46) _ _ (by omega), hf70], by omega, by omega, by omega, by omega, by omega, (sO_i (d := 7) (Or.inl ⟨hf2, hf3⟩) (by omega)).trans ((sIn_b ⟨hf2, hf3⟩).trans hf76), by show st85 0 10 = st 0 10; rw [est85, up2_ne (r := 0) (k := 45) (a := 0) (j := 10) _ _ (by omega), hk77, (hFst58 0 10 (by decide)).1, est56, up2_ne (r := 0) (k := 45) (a := 0) (j := 10) _ _ (by omega), est55, up2_ne (r := 0) (k := 44) (a := 0) (j := 10) _ _ (by omega)]⟩)⟩, mB.of ht hP⟩, hS.F ht⟩) hS.2.2 dX12_readSaid_177
          · refine lv_istore_n (lv' := [(3, .int 0), (2, .int (nI k5)), (1, .int 1), (0, .ref (ar 0))]) hx hb dX12_readSaid_104 rfl hl (by decide) rfl (fun ls hl => ?_)
            refine lv_goto (tgt := 166) hx hb dX12_readSaid_105 (by decide) ?_
            refine lv_aload_n hx hb dX12_readSaid_166 rfl (lv_at hl 3 rfl) ?_
            refine lv_dup hx hb dX12_readSaid_167 rfl ?_
            refine va_get (D := (dC, dI)) (ci := 11) (v := .int (st61 0 45)) (C := RX12) (T := TX12) (N := 47) hx hb hts ii_X12_readSaid hown hK hP 0 rfl rfl 45 (by decide) (hts _ mm_X12_readSaid_2) (fun _ hh => hh) rfl dX12_readSaid_168 ?_
            refine zz_top (v := 1) (by show st61 0 45 = _; rw [hf84]) ?_
            refine lv_iconst (v := 1) hx hb dX12_readSaid_171 (by decide) ?_
            refine lv_isub hx hb dX12_readSaid_172 ?_
            refine zz_top (v := 0) (by decide) ?_
            refine va_put (D := (dC, dI)) (ci := 11) (v := .int 0) (ty := .int) (C := RX12) (T := TX12) (N := 47) hx hb hts ii_X12_readSaid tyX12 tyX12_ok nmX12 hown hK hP (mD hN _ _ _ _) hS 0 rfl rfl 45 (by decide) (hts _ mm_X12_readSaid_2) (fun _ hh => hh) rfl (by decide +kernel) rfl rfl (Nat.le_of_ble_eq_true rfl) dX12_readSaid_173 (fun H locs hP _ hS => ?_)
            have hP : va_P (dC, dI) vwCl (mw ar cy (up2 st61 0 45 0) sl62) H := hP
            obtain ⟨st86, est86⟩ : ∃ y, y = up2 st61 0 45 0 := ⟨_, rfl⟩
            have hG : MG [1, 2, 3, 6, 7, 13, 14, 15, 20, 21, 22] st st86 := by rw [est86]; exact hG.up (r0) (pn (by decide : pcl 0 45 = 11) (by decide))
            rw [← est86] at hP
            have hF : FM 6 st sl st86 sl62 := by rw [est86]; exact hF.up (by decide)
            have hR : RN c nm st86 sl62 := by rw [est86]; exact hR.up (by omega)
            refine lv_iload_n hx hb dX12_readSaid_176 rfl (lv_at hl 0 rfl) ?_
            exact W.zret (v := 0) hx hb hr rfl (fun t ht hW => ⟨⟨0, (st86, sl62), rfl, ⟨hG, hF, Or.inr (⟨n78, n79, rfl, by show st86 0 10 = _; rw [est86, up2_ne (r := 0) (k := 45) (a := 0) (j := 10) _ _ (by omega), hf80], by show st86 0 11 = _; rw [est86, up2_ne (r := 0) (k := 45) (a := 0) (j := 11) _ _ (by omega), hf81], hf82, (sO_i (d := 7) (Or.inl ⟨hf2, hf3⟩) (by omega)).trans ((sIn_b ⟨hf2, hf3⟩).trans hf83), by show st86 0 45 = _; rw [est86, up2_same]⟩)⟩, mB.of ht hP⟩, hS.F ht⟩) hS.2.2 dX12_readSaid_177
      · refine lv_if_ne (tgt := 30) hx hb dX12_readSaid_21 (by decide) (fun cc => absurd (by decide) cc) (fun _ => ?_)
        refine lv_iinc (v := (nI (k5 + 1))) (lv' := [(2, .int (nI (k5 + 1))), (1, .int 1), (0, .ref (ar 0))]) hx hb dX12_readSaid_24 hl (k := 0) rfl (nI_add k5 1) (by decide) rfl (fun ls hl => ?_)
        refine lv_goto (tgt := 10) hx hb dX12_readSaid_27 (by decide) ?_
        exact ih9 (25 - (k5 + 1)) _ _ _ _ (by omega) ⟨(k5 + 1), rfl, by omega, by omega, fun i h1 h2 hz => if h9 : i = k5 then (by omega) else hv8_0 i h1 (by omega) hz, hP, hS, lv_sub hl [0, 1, 2] rfl, rfl⟩
  · refine lv_istore_n (lv' := [(1, .int 0), (0, .ref (ar 0))]) hx hb dX12_readSaid_6 rfl hl (by decide) rfl (fun ls hl => ?_)
    refine lv_bipush (v := 15) hx hb dX12_readSaid_7 (by decide) ?_
    refine lv_istore_n (lv' := [(2, .int 15), (1, .int 0), (0, .ref (ar 0))]) hx hb dX12_readSaid_9 rfl hl (by decide) rfl (fun ls hl => ?_)
    refine zz_wf (fun n stk H locs ls => ∃ k87 : Nat, n = 25 - k87 ∧ 15 ≤ k87 ∧ k87 < 25 ∧ (∀ i, 15 ≤ i → i < k87 → ¬ tkw B g m p = i) ∧ va_P (dC, dI) vwCl (mw ar cy st sl) H ∧ va_S (MA ar s.heap.size) s.heap H locs ∧ lv_has ls 4 [(2, .int (nI k87)), (1, .int 0), (0, .ref (ar 0))] ∧ stk = []) ?_ (25 - 15) _ _ _ _ ⟨15, rfl, by omega, by omega, fun i h1 h2 => absurd h1 (by omega), hP, hS, lv_sub hl [0, 1, 2] rfl, rfl⟩
    rintro nn stk H locs ls ⟨k87, hm90, hv88_0, hv89_1, hv90_0, hP, hS, hl, rfl⟩ ih91
    refine lv_iload_n hx hb dX12_readSaid_10 rfl (lv_at hl 0 rfl) ?_
    refine lv_bipush (v := 23) hx hb dX12_readSaid_11 (by decide) ?_
    refine lv_icmp_gt (tgt := 30) hx hb dX12_readSaid_13 (by decide) (fun c12 => ?_) (fun c12 => ?_)
    · have c12 : 23 < k87 := (nI_ltI (a := 23) (b := k87) (by omega) (by omega)).mp c12
      refine lv_iload_n hx hb dX12_readSaid_30 rfl (lv_at hl 1 rfl) ?_
      refine lv_if_ne (tgt := 46) hx hb dX12_readSaid_31 (by decide) (fun cc => absurd (by decide) cc) (fun _ => ?_)
      refine lv_iload_n hx hb dX12_readSaid_34 rfl (lv_at hl 0 rfl) ?_
      refine lv_bipush (v := 23) hx hb dX12_readSaid_35 (by decide) ?_
      refine lv_icmp_le (tgt := 46) hx hb dX12_readSaid_37 (by decide) (fun cc => absurd ((nI_leI (a := k87) (b := 23) (by omega) (by omega)).mp cc) (by omega)) (fun _ => ?_)
      refine lv_aload_n hx hb dX12_readSaid_40 rfl (lv_at hl 2 rfl) ?_
      refine lv_iconst (v := 1) hx hb dX12_readSaid_41 (by decide) ?_
      refine va_calli (va_runV (As := [.int 1]) (rest := []) ⟨hx, hb, hml, hown, hts⟩ (f_bad l dC dI ar cy _ hN st sl 1 B g m p (by omega) hG.1 (MBt.fr hB hF) hT) (cwV 1 hts gX12_readSaid_X12_bad rfl rfl rfl (by decide +kernel) ⟨Nat.le_of_ble_eq_true rfl, Nat.le_of_ble_eq_true rfl⟩) ⟨fun a U g mk q => ⟨q.1, mPre.blind q.2⟩, va_recv hK hP (ci := 11) (q0 := 0) rfl rfl, fun U hU hW => ⟨rfl, mPre.of hP hK hU hW⟩⟩ rfl rfl hl.1 rfl (lv_room (Nat.le_of_ble_eq_true rfl)) dX12_readSaid_42 ⟨Nat.le_of_ble_eq_true rfl, Nat.le_of_ble_eq_true rfl⟩) hS (fun q _ h => MA.le hS.1 q h) (MA.le hS.1) (fun r92 x t H locs ht hvm hw hB9 _ _ hS => ?_)
      have hP := mB.at ht hB9
      clear hB9 ht hvm
      obtain ⟨st93, sl94⟩ := x
      obtain ⟨hG2, hF2, hw⟩ := hw
      dsimp only at hG2 hF2 hw
      have hP : va_P (dC, dI) vwCl (mw ar cy st93 sl94) _ := hP
      have hG : MG [1, 2, 3, 6, 7, 13, 14, 15, 20, 21, 22] st st93 := hG.tr hG2 (by decide)
      have hFst93 : FM 2 st sl st93 sl94 := hF2
      have hF : FM 6 st sl st93 sl94 := hF.tr hFst93 (by omega) (by omega)
      clear hG2 hF2
      have hR : RN c nm st93 sl94 := hR.fr hFst93
      obtain ⟨rfl, hf95, hf96, hT⟩ := hw
      have hp9 := hT.2.2.2.2.2.2
      have hk1 := tkd_lt (B := B) (g := g) (m := m) (p := p)
      have hk2 := tkx_le (B := B) (g := g) (m := m) (p := p) hp9
      have hk3 := tka_le (B := B) (g := g) (m := m) (p := p) hp9 hB.2.2.1
      have hk4 := tkv_lt (p := p) hB hp9
      have hk5 := tkw_lt (B := B) (g := g) (m := m) (p := p)
      exact W.zret (v := 0) hx hb hr rfl (fun t ht hW => ⟨⟨0, (st93, sl94), rfl, ⟨hG, hF, Or.inr (⟨1, (tka B g m p), rfl, by show st93 0 10 = _; rw [hf95, bdk_1], by show st93 0 11 = _; rw [hf96], by omega, sO_1 (fun z9 => z9.elim hf4 (fun z8 => hv90_0 _ z8.1 (by omega) rfl)), by show st93 0 45 = _; rw [(hFst93 0 45 (by decide)).1, h45]⟩)⟩, mB.of ht hP⟩, hS.F ht⟩) hS.2.2 dX12_readSaid_45
    · have c12 : ¬ 23 < k87 := fun hh => c12 ((nI_ltI (a := 23) (b := k87) (by omega) (by omega)).mpr hh)
      refine lv_aload_n hx hb dX12_readSaid_16 rfl (lv_at hl 2 rfl) ?_
      refine lv_iload_n hx hb dX12_readSaid_17 rfl (lv_at hl 0 rfl) ?_
      refine va_calli (va_runV (As := [.int (nI k87)]) (rest := []) ⟨hx, hb, hml, hown, hts⟩ (f_isWordN l dC dI ar cy _ hN st sl k87 B g m p (by omega) (by omega) hG.1 (MBt.fr hB hF) hT) (cwV 1 hts gX12_readSaid_X12_isWord rfl rfl rfl (by decide +kernel) ⟨Nat.le_of_ble_eq_true rfl, Nat.le_of_ble_eq_true rfl⟩) ⟨fun a U g mk q => ⟨q.1, mPre.blind q.2⟩, va_recv hK hP (ci := 11) (q0 := 0) rfl rfl, fun U hU hW => ⟨rfl, mPre.of hP hK hU hW⟩⟩ rfl rfl hl.1 rfl (lv_room (Nat.le_of_ble_eq_true rfl)) dX12_readSaid_18 ⟨Nat.le_of_ble_eq_true rfl, Nat.le_of_ble_eq_true rfl⟩) hS (fun q _ h => MA.le hS.1 q h) (MA.le hS.1) (fun r97 x t H locs ht hvm hw hB9 _ _ hS => ?_)
      have hP := mB.at ht hB9
      clear hB9 ht hvm
      obtain ⟨rfl, hw⟩ := hw
      have hP : va_P (dC, dI) vwCl (mw ar cy st sl) _ := hP
      rcases hw with ⟨rfl, hf98⟩ | ⟨rfl, hf99⟩
      · refine lv_if_ne (tgt := 30) hx hb dX12_readSaid_21 (by decide) (fun _ => ?_) (fun cc => absurd cc (by decide))
        refine lv_iload_n hx hb dX12_readSaid_30 rfl (lv_at hl 1 rfl) ?_
        refine lv_if_ne (tgt := 46) hx hb dX12_readSaid_31 (by decide) (fun cc => absurd (by decide) cc) (fun _ => ?_)
        refine lv_iload_n hx hb dX12_readSaid_34 rfl (lv_at hl 0 rfl) ?_
        refine lv_bipush (v := 23) hx hb dX12_readSaid_35 (by decide) ?_
        refine lv_icmp_le (tgt := 46) hx hb dX12_readSaid_37 (by decide) (fun _ => ?_) (fun cc => absurd ((nI_leI (a := k87) (b := 23) (by omega) (by omega)).mpr (by omega)) cc)
        refine lv_aload_n hx hb dX12_readSaid_46 rfl (lv_at hl 2 rfl) ?_
        refine va_get (D := (dC, dI)) (ci := 11) (v := .int (st 0 44)) (C := RX12) (T := TX12) (N := 47) hx hb hts ii_X12_readSaid hown hK hP 0 rfl rfl 44 (by decide) (hts _ mm_X12_readSaid_1) (fun _ hh => hh) rfl dX12_readSaid_47 ?_
        refine zz_top (v := (nI go)) (by show st 0 44 = _; rw [h44]) ?_
        refine lv_bipush (v := 20) hx hb dX12_readSaid_50 (by decide) ?_
        refine lv_icmp_eq (tgt := 64) hx hb dX12_readSaid_52 (by decide) (fun c18 => ?_) (fun c18 => ?_)
        · have c18 : go = 20 := (nI_eq (a := go) (b := 20) (by omega) (by omega)).mp c18
          refine lv_aload_n hx hb dX12_readSaid_64 rfl (lv_at hl 2 rfl) ?_
          refine lv_iconst (v := 4) hx hb dX12_readSaid_65 (by decide) ?_
          refine va_calli (va_runV (As := [.int 4]) (rest := []) ⟨hx, hb, hml, hown, hts⟩ (f_bad l dC dI ar cy _ hN st sl 4 B g m p (by omega) hG.1 (MBt.fr hB hF) hT) (cwV 1 hts gX12_readSaid_X12_bad rfl rfl rfl (by decide +kernel) ⟨Nat.le_of_ble_eq_true rfl, Nat.le_of_ble_eq_true rfl⟩) ⟨fun a U g mk q => ⟨q.1, mPre.blind q.2⟩, va_recv hK hP (ci := 11) (q0 := 0) rfl rfl, fun U hU hW => ⟨rfl, mPre.of hP hK hU hW⟩⟩ rfl rfl hl.1 rfl (lv_room (Nat.le_of_ble_eq_true rfl)) dX12_readSaid_66 ⟨Nat.le_of_ble_eq_true rfl, Nat.le_of_ble_eq_true rfl⟩) hS (fun q _ h => MA.le hS.1 q h) (MA.le hS.1) (fun r100 x t H locs ht hvm hw hB9 _ _ hS => ?_)
          have hP := mB.at ht hB9
          clear hB9 ht hvm
          obtain ⟨st101, sl102⟩ := x
          obtain ⟨hG2, hF2, hw⟩ := hw
          dsimp only at hG2 hF2 hw
          have hP : va_P (dC, dI) vwCl (mw ar cy st101 sl102) _ := hP
          have hG : MG [1, 2, 3, 6, 7, 13, 14, 15, 20, 21, 22] st st101 := hG.tr hG2 (by decide)
          have hFst101 : FM 2 st sl st101 sl102 := hF2
          have hF : FM 6 st sl st101 sl102 := hF.tr hFst101 (by omega) (by omega)
          clear hG2 hF2
          have hR : RN c nm st101 sl102 := hR.fr hFst101
          obtain ⟨rfl, hf103, hf104, hT⟩ := hw
          have hp9 := hT.2.2.2.2.2.2
          have hk1 := tkd_lt (B := B) (g := g) (m := m) (p := p)
          have hk2 := tkx_le (B := B) (g := g) (m := m) (p := p) hp9
          have hk3 := tka_le (B := B) (g := g) (m := m) (p := p) hp9 hB.2.2.1
          have hk4 := tkv_lt (p := p) hB hp9
          have hk5 := tkw_lt (B := B) (g := g) (m := m) (p := p)
          exact W.zret (v := 0) hx hb hr rfl (fun t ht hW => ⟨⟨0, (st101, sl102), rfl, ⟨hG, hF, Or.inr (⟨4, (tka B g m p), rfl, by show st101 0 10 = _; rw [hf103, bdk_n (by have h9 := @tkw_d B g m p; omega)], by show st101 0 11 = _; rw [hf104], by omega, sO_4 (Or.inr ⟨by omega, by omega⟩) (Or.inr (by omega)), by show st101 0 45 = _; rw [(hFst101 0 45 (by decide)).1, h45]⟩)⟩, mB.of ht hP⟩, hS.F ht⟩) hS.2.2 dX12_readSaid_69
        · have c18 : ¬ go = 20 := fun hh => c18 ((nI_eq (a := go) (b := 20) (by omega) (by omega)).mpr hh)
          refine lv_aload_n hx hb dX12_readSaid_55 rfl (lv_at hl 2 rfl) ?_
          refine va_get (D := (dC, dI)) (ci := 11) (v := .int (st 0 45)) (C := RX12) (T := TX12) (N := 47) hx hb hts ii_X12_readSaid hown hK hP 0 rfl rfl 45 (by decide) (hts _ mm_X12_readSaid_2) (fun _ hh => hh) rfl dX12_readSaid_56 ?_
          refine zz_top (v := 0) (by show st 0 45 = _; rw [h45]) ?_
          refine lv_bipush (v := 8) hx hb dX12_readSaid_59 (by decide) ?_
          refine lv_icmp_ne (tgt := 70) hx hb dX12_readSaid_61 (by decide) (fun _ => ?_) (fun cc => absurd cc (by decide))
          refine lv_aload_n hx hb dX12_readSaid_70 rfl (lv_at hl 2 rfl) ?_
          refine lv_dup hx hb dX12_readSaid_71 rfl ?_
          refine va_get (D := (dC, dI)) (ci := 11) (v := .int (st 0 44)) (C := RX12) (T := TX12) (N := 47) hx hb hts ii_X12_readSaid hown hK hP 0 rfl rfl 44 (by decide) (hts _ mm_X12_readSaid_1) (fun _ hh => hh) rfl dX12_readSaid_72 ?_
          refine zz_top (v := (nI go)) (by show st 0 44 = _; rw [h44]) ?_
          refine lv_iconst (v := 1) hx hb dX12_readSaid_75 (by decide) ?_
          refine lv_iadd hx hb dX12_readSaid_76 ?_
          refine zz_top (v := nI (go + 1)) (nI_add go 1) ?_
          refine va_put (D := (dC, dI)) (ci := 11) (v := .int (nI (go + 1))) (ty := .int) (C := RX12) (T := TX12) (N := 47) hx hb hts ii_X12_readSaid tyX12 tyX12_ok nmX12 hown hK hP (mD hN _ _ _ _) hS 0 rfl rfl 44 (by decide) (hts _ mm_X12_readSaid_1) (fun _ hh => hh) rfl (by decide +kernel) rfl rfl (Nat.le_of_ble_eq_true rfl) dX12_readSaid_77 (fun H locs hP _ hS => ?_)
          have hP : va_P (dC, dI) vwCl (mw ar cy (up2 st 0 44 (nI (go + 1))) sl) H := hP
          obtain ⟨st105, est105⟩ : ∃ y, y = up2 st 0 44 (nI (go + 1)) := ⟨_, rfl⟩
          have hG : MG [1, 2, 3, 6, 7, 13, 14, 15, 20, 21, 22] st st105 := by rw [est105]; exact hG.up (rn (n := (go + 1)) (by decide : mr 0 44 = 21) (by omega)) (pn (by decide : pcl 0 44 = 10) (by decide))
          rw [← est105] at hP
          have hF : FM 6 st sl st105 sl := by rw [est105]; exact hF.up (by decide)
          have hT : TM B g m p st105 sl := by rw [est105]; exact hT.up (by omega)
          have hR : RN c nm st105 sl := by rw [est105]; exact hR.up (by omega)
          refine lv_aload_n hx hb dX12_readSaid_80 rfl (lv_at hl 2 rfl) ?_
          refine lv_dup hx hb dX12_readSaid_81 rfl ?_
          refine va_get (D := (dC, dI)) (ci := 11) (v := .int (st105 0 45)) (C := RX12) (T := TX12) (N := 47) hx hb hts ii_X12_readSaid hown hK hP 0 rfl rfl 45 (by decide) (hts _ mm_X12_readSaid_2) (fun _ hh => hh) rfl dX12_readSaid_82 ?_
          refine zz_top (v := 0) (by show st105 0 45 = _; rw [est105, up2_ne (r := 0) (k := 44) (a := 0) (j := 45) _ _ (by omega), h45]) ?_
          refine lv_iconst (v := 1) hx hb dX12_readSaid_85 (by decide) ?_
          refine lv_iadd hx hb dX12_readSaid_86 ?_
          refine zz_top (v := 1) (by decide) ?_
          refine va_put (D := (dC, dI)) (ci := 11) (v := .int 1) (ty := .int) (C := RX12) (T := TX12) (N := 47) hx hb hts ii_X12_readSaid tyX12 tyX12_ok nmX12 hown hK hP (mD hN _ _ _ _) hS 0 rfl rfl 45 (by decide) (hts _ mm_X12_readSaid_2) (fun _ hh => hh) rfl (by decide +kernel) rfl rfl (Nat.le_of_ble_eq_true rfl) dX12_readSaid_87 (fun H locs hP _ hS => ?_)
          have hP : va_P (dC, dI) vwCl (mw ar cy (up2 st105 0 45 1) sl) H := hP
          obtain ⟨st106, est106⟩ : ∃ y, y = up2 st105 0 45 1 := ⟨_, rfl⟩
          have hG : MG [1, 2, 3, 6, 7, 13, 14, 15, 20, 21, 22] st st106 := by rw [est106]; exact hG.up (rn (n := 1) (by decide : mr 0 45 = 9) (by omega)) (pn (by decide : pcl 0 45 = 11) (by decide))
          rw [← est106] at hP
          have hF : FM 6 st sl st106 sl := by rw [est106]; exact hF.up (by decide)
          have hT : TM B g m p st106 sl := by rw [est106]; exact hT.up (by omega)
          have hR : RN c nm st106 sl := by rw [est106]; exact hR.up (by omega)
          refine lv_aload_n hx hb dX12_readSaid_90 rfl (lv_at hl 2 rfl) ?_
          refine va_callv (va_runV (As := []) (rest := []) ⟨hx, hb, hml, hown, hts⟩ (f_go l dC dI ar cy _ hN st106 sl B g m (tkx B g m p) hG.1 (MBt.fr hB hF) hT.1 hk2.2) (cwV 0 hts gX12_readSaid_X12_go rfl rfl rfl (by decide +kernel) ⟨Nat.le_of_ble_eq_true rfl, Nat.le_of_ble_eq_true rfl⟩) ⟨fun a U g mk q => ⟨q.1, mPre.blind q.2⟩, va_recv hK hP (ci := 11) (q0 := 0) rfl rfl, fun U hU hW => ⟨rfl, mPre.of hP hK hU hW⟩⟩ rfl rfl hl.1 rfl (lv_room (Nat.le_of_ble_eq_true rfl)) dX12_readSaid_91 ⟨Nat.le_of_ble_eq_true rfl, Nat.le_of_ble_eq_true rfl⟩) hS (fun q _ h => MA.le hS.1 q h) (MA.le hS.1) (fun x t H locs ht hvm hw hB9 _ _ hS => ?_)
          have hP := mB.at ht hB9
          clear hB9 ht hvm
          obtain ⟨st108, sl109⟩ := x
          obtain ⟨hG2, hF2, hw⟩ := hw
          dsimp only at hG2 hF2 hw
          have hP : va_P (dC, dI) vwCl (mw ar cy st108 sl109) _ := hP
          have hG : MG [1, 2, 3, 6, 7, 13, 14, 15, 20, 21, 22] st st108 := hG.tr hG2 (by decide)
          have hFst108 : FM 1 st106 sl st108 sl109 := hF2
          have hF : FM 6 st sl st108 sl109 := hF.tr hFst108 (by omega) (by omega)
          clear hG2 hF2
          have hR : RN c nm st108 sl109 := hR.fr hFst108
          have hT := hw
          have hp9 := hT.2.2.2.2.2.2
          have hk1 := tkd_lt (B := B) (g := g) (m := m) (p := (tkx B g m p))
          have hk2 := tkx_le (B := B) (g := g) (m := m) (p := (tkx B g m p)) hp9
          have hk3 := tka_le (B := B) (g := g) (m := m) (p := (tkx B g m p)) hp9 hB.2.2.1
          have hk4 := tkv_lt (p := (tkx B g m p)) hB hp9
          have hk5 := tkw_lt (B := B) (g := g) (m := m) (p := (tkx B g m p))
          refine lv_iconst (v := 1) hx hb dX12_readSaid_94 (by decide) ?_
          refine lv_istore_n (lv' := [(3, .int 1), (2, .int (nI k87)), (1, .int 0), (0, .ref (ar 0))]) hx hb dX12_readSaid_95 rfl hl (by decide) rfl (fun ls hl => ?_)
          refine lv_iload_n hx hb dX12_readSaid_96 rfl (lv_at hl 2 rfl) ?_
          refine lv_if_eq (tgt := 108) hx hb dX12_readSaid_97 (by decide) (fun _ => ?_) (fun cc => absurd (by decide) cc)
          refine lv_iload_n hx hb dX12_readSaid_108 rfl (lv_at hl 1 rfl) ?_
          refine lv_bipush (v := 15) hx hb dX12_readSaid_109 (by decide) ?_
          refine lv_icmp_ne (tgt := 122) hx hb dX12_readSaid_111 (by decide) (fun c21 => ?_) (fun c21 => ?_)
          · have c21 : ¬ k87 = 15 := fun hh => c21 ((nI_eq (a := k87) (b := 15) (by omega) (by omega)).mpr hh)
            refine lv_iload_n hx hb dX12_readSaid_122 rfl (lv_at hl 1 rfl) ?_
            refine lv_bipush (v := 18) hx hb dX12_readSaid_123 (by decide) ?_
            refine lv_icmp_ge (tgt := 146) hx hb dX12_readSaid_125 (by decide) (fun c22 => ?_) (fun c22 => ?_)
            · have c22 : 18 ≤ k87 := (nI_leI (a := 18) (b := k87) (by omega) (by omega)).mp c22
              refine lv_iload_n hx hb dX12_readSaid_146 rfl (lv_at hl 1 rfl) ?_
              refine lv_bipush (v := 20) hx hb dX12_readSaid_147 (by decide) ?_
              refine lv_icmp_ge (tgt := 160) hx hb dX12_readSaid_149 (by decide) (fun c23 => ?_) (fun c23 => ?_)
              · have c23 : 20 ≤ k87 := (nI_leI (a := 20) (b := k87) (by omega) (by omega)).mp c23
                refine lv_aload_n hx hb dX12_readSaid_160 rfl (lv_at hl 3 rfl) ?_
                refine lv_iload_n hx hb dX12_readSaid_161 rfl (lv_at hl 1 rfl) ?_
                refine va_calli (va_runV (As := [.int (nI k87)]) (rest := []) ⟨hx, hb, hml, hown, hts⟩ (f_readCompare l dC dI ar cy _ hN st108 sl109 k87 B g m (tkx B g m p) c nm gn (by omega) (by omega) hG.1 (MBt.fr hB hF) hT hR (by rw [(hFst108 0 43 (by decide)).1, est106, up2_ne (r := 0) (k := 45) (a := 0) (j := 43) _ _ (by omega), est105, up2_ne (r := 0) (k := 44) (a := 0) (j := 43) _ _ (by omega), h43]) (by omega)) (cwV 1 hts gX12_readSaid_X12_readCompare rfl rfl rfl (by decide +kernel) ⟨Nat.le_of_ble_eq_true rfl, Nat.le_of_ble_eq_true rfl⟩) ⟨fun a U g mk q => ⟨q.1, mPre.blind q.2⟩, va_recv hK hP (ci := 11) (q0 := 0) rfl rfl, fun U hU hW => ⟨rfl, mPre.of hP hK hU hW⟩⟩ rfl rfl hl.1 rfl (lv_room (Nat.le_of_ble_eq_true rfl)) dX12_readSaid_162 ⟨Nat.le_of_ble_eq_true rfl, Nat.le_of_ble_eq_true rfl⟩) hS (fun q _ h => MA.le hS.1 q h) (MA.le hS.1) (fun r110 x t H locs ht hvm hw hB9 _ _ hS => ?_)
                have hP := mB.at ht hB9
                clear hB9 ht hvm
                obtain ⟨st111, sl112⟩ := x
                obtain ⟨hG2, hF2, hw⟩ := hw
                dsimp only at hG2 hF2 hw
                have hP : va_P (dC, dI) vwCl (mw ar cy st111 sl112) _ := hP
                have hG : MG [1, 2, 3, 6, 7, 13, 14, 15, 20, 21, 22] st st111 := hG.tr hG2 (by decide)
                have hFst111 : FM 5 st108 sl109 st111 sl112 := hF2
                have hF : FM 6 st sl st111 sl112 := hF.tr hFst111 (by omega) (by omega)
                clear hG2 hF2
                have hR : RN c nm st111 sl112 := hR.fr hFst111
                rcases hw with ⟨rfl, hT, hf113, hf114, hf115, hk116⟩ | ⟨n117, n118, rfl, hf119, hf120, hf121, hf122⟩
                · have hp9 := hT.2.2.2.2.2.2
                  have hk1 := tkd_lt (B := B) (g := g) (m := m) (p := (tkx B g m (tkx B g m (tkx B g m p))))
                  have hk2 := tkx_le (B := B) (g := g) (m := m) (p := (tkx B g m (tkx B g m (tkx B g m p)))) hp9
                  have hk3 := tka_le (B := B) (g := g) (m := m) (p := (tkx B g m (tkx B g m (tkx B g m p)))) hp9 hB.2.2.1
                  have hk4 := tkv_lt (p := (tkx B g m (tkx B g m (tkx B g m p)))) hB hp9
                  have hk5 := tkw_lt (B := B) (g := g) (m := m) (p := (tkx B g m (tkx B g m (tkx B g m p))))
                  refine lv_istore_n (lv' := [(3, .int 1), (2, .int (nI k87)), (1, .int 0), (0, .ref (ar 0))]) hx hb dX12_readSaid_165 rfl hl (by decide) rfl (fun ls hl => ?_)
                  refine lv_aload_n hx hb dX12_readSaid_166 rfl (lv_at hl 3 rfl) ?_
                  refine lv_dup hx hb dX12_readSaid_167 rfl ?_
                  refine va_get (D := (dC, dI)) (ci := 11) (v := .int (st111 0 45)) (C := RX12) (T := TX12) (N := 47) hx hb hts ii_X12_readSaid hown hK hP 0 rfl rfl 45 (by decide) (hts _ mm_X12_readSaid_2) (fun _ hh => hh) rfl dX12_readSaid_168 ?_
                  refine zz_top (v := 1) (by show st111 0 45 = _; rw [(hFst111 0 45 (by decide)).1, (hFst108 0 45 (by decide)).1, est106, up2_same]) ?_
                  refine lv_iconst (v := 1) hx hb dX12_readSaid_171 (by decide) ?_
                  refine lv_isub hx hb dX12_readSaid_172 ?_
                  refine zz_top (v := 0) (by decide) ?_
                  refine va_put (D := (dC, dI)) (ci := 11) (v := .int 0) (ty := .int) (C := RX12) (T := TX12) (N := 47) hx hb hts ii_X12_readSaid tyX12 tyX12_ok nmX12 hown hK hP (mD hN _ _ _ _) hS 0 rfl rfl 45 (by decide) (hts _ mm_X12_readSaid_2) (fun _ hh => hh) rfl (by decide +kernel) rfl rfl (Nat.le_of_ble_eq_true rfl) dX12_readSaid_173 (fun H locs hP _ hS => ?_)
                  have hP : va_P (dC, dI) vwCl (mw ar cy (up2 st111 0 45 0) sl112) H := hP
                  obtain ⟨st123, est123⟩ : ∃ y, y = up2 st111 0 45 0 := ⟨_, rfl⟩
                  have hG : MG [1, 2, 3, 6, 7, 13, 14, 15, 20, 21, 22] st st123 := by rw [est123]; exact hG.up (r0) (pn (by decide : pcl 0 45 = 11) (by decide))
                  rw [← est123] at hP
                  have hF : FM 6 st sl st123 sl112 := by rw [est123]; exact hF.up (by decide)
                  have hT : TM B g m (tkx B g m (tkx B g m (tkx B g m p))) st123 sl112 := by rw [est123]; exact hT.up (by omega)
                  have hR : RN c nm st123 sl112 := by rw [est123]; exact hR.up (by omega)
                  refine lv_iload_n hx hb dX12_readSaid_176 rfl (lv_at hl 0 rfl) ?_
                  exact W.zret (v := 1) hx hb hr rfl (fun t ht hW => ⟨⟨1, (st123, sl112), rfl, ⟨hG, hF, Or.inl (⟨(tkx B g m (tkx B g m (tkx B g m p))), (gn + 1), (go + 1), gn, rfl, hT, by show st123 0 43 = _; rw [est123, up2_ne (r := 0) (k := 45) (a := 0) (j := 43) _ _ (by omega), hf113], by show st123 0 44 = _; rw [est123, up2_ne (r := 0) (k := 45) (a := 0) (j := 44) _ _ (by omega), (hFst111 0 44 (by decide)).1, (hFst108 0 44 (by decide)).1, est106, up2_ne (r := 0) (k := 45) (a := 0) (j := 44) _ _ (by omega), est105, up2_same], by show st123 0 45 = _; rw [est123, up2_same], by show st123 0 46 = _; rw [est123, up2_ne (r := 0) (k := 45) (a := 0) (j := 46) _ _ (by omega), hf114], by omega, by omega, by omega, by omega, by omega, (sO_i (d := 7) (Or.inr ⟨by omega, by omega⟩) (by omega)).trans ((sIn_c hf4 (by omega)).trans (hf115 _)), by show st123 0 10 = st 0 10; rw [est123, up2_ne (r := 0) (k := 45) (a := 0) (j := 10) _ _ (by omega), hk116, (hFst108 0 10 (by decide)).1, est106, up2_ne (r := 0) (k := 45) (a := 0) (j := 10) _ _ (by omega), est105, up2_ne (r := 0) (k := 44) (a := 0) (j := 10) _ _ (by omega)]⟩)⟩, mB.of ht hP⟩, hS.F ht⟩) hS.2.2 dX12_readSaid_177
                · refine lv_istore_n (lv' := [(3, .int 0), (2, .int (nI k87)), (1, .int 0), (0, .ref (ar 0))]) hx hb dX12_readSaid_165 rfl hl (by decide) rfl (fun ls hl => ?_)
                  refine lv_aload_n hx hb dX12_readSaid_166 rfl (lv_at hl 3 rfl) ?_
                  refine lv_dup hx hb dX12_readSaid_167 rfl ?_
                  refine va_get (D := (dC, dI)) (ci := 11) (v := .int (st111 0 45)) (C := RX12) (T := TX12) (N := 47) hx hb hts ii_X12_readSaid hown hK hP 0 rfl rfl 45 (by decide) (hts _ mm_X12_readSaid_2) (fun _ hh => hh) rfl dX12_readSaid_168 ?_
                  refine zz_top (v := 1) (by show st111 0 45 = _; rw [(hFst111 0 45 (by decide)).1, (hFst108 0 45 (by decide)).1, est106, up2_same]) ?_
                  refine lv_iconst (v := 1) hx hb dX12_readSaid_171 (by decide) ?_
                  refine lv_isub hx hb dX12_readSaid_172 ?_
                  refine zz_top (v := 0) (by decide) ?_
                  refine va_put (D := (dC, dI)) (ci := 11) (v := .int 0) (ty := .int) (C := RX12) (T := TX12) (N := 47) hx hb hts ii_X12_readSaid tyX12 tyX12_ok nmX12 hown hK hP (mD hN _ _ _ _) hS 0 rfl rfl 45 (by decide) (hts _ mm_X12_readSaid_2) (fun _ hh => hh) rfl (by decide +kernel) rfl rfl (Nat.le_of_ble_eq_true rfl) dX12_readSaid_173 (fun H locs hP _ hS => ?_)
                  have hP : va_P (dC, dI) vwCl (mw ar cy (up2 st111 0 45 0) sl112) H := hP
                  obtain ⟨st124, est124⟩ : ∃ y, y = up2 st111 0 45 0 := ⟨_, rfl⟩
                  have hG : MG [1, 2, 3, 6, 7, 13, 14, 15, 20, 21, 22] st st124 := by rw [est124]; exact hG.up (r0) (pn (by decide : pcl 0 45 = 11) (by decide))
                  rw [← est124] at hP
                  have hF : FM 6 st sl st124 sl112 := by rw [est124]; exact hF.up (by decide)
                  have hR : RN c nm st124 sl112 := by rw [est124]; exact hR.up (by omega)
                  refine lv_iload_n hx hb dX12_readSaid_176 rfl (lv_at hl 0 rfl) ?_
                  exact W.zret (v := 0) hx hb hr rfl (fun t ht hW => ⟨⟨0, (st124, sl112), rfl, ⟨hG, hF, Or.inr (⟨n117, n118, rfl, by show st124 0 10 = _; rw [est124, up2_ne (r := 0) (k := 45) (a := 0) (j := 10) _ _ (by omega), hf119], by show st124 0 11 = _; rw [est124, up2_ne (r := 0) (k := 45) (a := 0) (j := 11) _ _ (by omega), hf120], hf121, (sO_i (d := 7) (Or.inr ⟨by omega, by omega⟩) (by omega)).trans ((sIn_c hf4 (by omega)).trans (hf122 _)), by show st124 0 45 = _; rw [est124, up2_same]⟩)⟩, mB.of ht hP⟩, hS.F ht⟩) hS.2.2 dX12_readSaid_177
              · have c23 : ¬ 20 ≤ k87 := fun hh => c23 ((nI_leI (a := 20) (b := k87) (by omega) (by omega)).mpr hh)
                by_cases cw125 : k87 = 18
                · have hcw125 := cw125
                  have hl : lv_has ls 4 [(3, .int 1), (2, .int 18), (1, .int 0), (0, .ref (ar 0))] := by rw [hcw125] at hl; exact hl
                  refine lv_aload_n hx hb dX12_readSaid_152 rfl (lv_at hl 3 rfl) ?_
                  refine lv_iload_n hx hb dX12_readSaid_153 rfl (lv_at hl 1 rfl) ?_
                  refine va_calli (va_runV (As := [.int 18]) (rest := []) ⟨hx, hb, hml, hown, hts⟩ (f_readOf18 l dC dI ar cy _ hN st108 sl109 B g m (tkx B g m p) c nm gn hG.1 (MBt.fr hB hF) hT hR (by rw [(hFst108 0 43 (by decide)).1, est106, up2_ne (r := 0) (k := 45) (a := 0) (j := 43) _ _ (by omega), est105, up2_ne (r := 0) (k := 44) (a := 0) (j := 43) _ _ (by omega), h43]) (by omega)) (cwV 1 hts gX12_readSaid_X12_readOf rfl rfl rfl (by decide +kernel) ⟨Nat.le_of_ble_eq_true rfl, Nat.le_of_ble_eq_true rfl⟩) ⟨fun a U g mk q => ⟨q.1, mPre.blind q.2⟩, va_recv hK hP (ci := 11) (q0 := 0) rfl rfl, fun U hU hW => ⟨rfl, mPre.of hP hK hU hW⟩⟩ rfl rfl hl.1 rfl (lv_room (Nat.le_of_ble_eq_true rfl)) dX12_readSaid_154 ⟨Nat.le_of_ble_eq_true rfl, Nat.le_of_ble_eq_true rfl⟩) hS (fun q _ h => MA.le hS.1 q h) (MA.le hS.1) (fun r126 x t H locs ht hvm hw hB9 _ _ hS => ?_)
                  have hP := mB.at ht hB9
                  clear hB9 ht hvm
                  obtain ⟨st127, sl128⟩ := x
                  obtain ⟨hG2, hF2, hw⟩ := hw
                  dsimp only at hG2 hF2 hw
                  have hP : va_P (dC, dI) vwCl (mw ar cy st127 sl128) _ := hP
                  have hG : MG [1, 2, 3, 6, 7, 13, 14, 15, 20, 21, 22] st st127 := hG.tr hG2 (by decide)
                  have hFst127 : FM 5 st108 sl109 st127 sl128 := hF2
                  have hF : FM 6 st sl st127 sl128 := hF.tr hFst127 (by omega) (by omega)
                  clear hG2 hF2
                  have hR : RN c nm st127 sl128 := hR.fr hFst127
                  rcases hw with ⟨rfl, hT, hf129, hf130, hf131, hk132⟩ | ⟨n133, n134, rfl, hf135, hf136, hf137, hf138⟩
                  · have hp9 := hT.2.2.2.2.2.2
                    have hk1 := tkd_lt (B := B) (g := g) (m := m) (p := (tkx B g m (tkx B g m p)))
                    have hk2 := tkx_le (B := B) (g := g) (m := m) (p := (tkx B g m (tkx B g m p))) hp9
                    have hk3 := tka_le (B := B) (g := g) (m := m) (p := (tkx B g m (tkx B g m p))) hp9 hB.2.2.1
                    have hk4 := tkv_lt (p := (tkx B g m (tkx B g m p))) hB hp9
                    have hk5 := tkw_lt (B := B) (g := g) (m := m) (p := (tkx B g m (tkx B g m p)))
                    refine lv_goto (tgt := 165) hx hb dX12_readSaid_157 (by decide) ?_
                    refine lv_istore_n (lv' := [(3, .int 1), (2, .int 18), (1, .int 0), (0, .ref (ar 0))]) hx hb dX12_readSaid_165 rfl hl (by decide) rfl (fun ls hl => ?_)
                    refine lv_aload_n hx hb dX12_readSaid_166 rfl (lv_at hl 3 rfl) ?_
                    refine lv_dup hx hb dX12_readSaid_167 rfl ?_
                    refine va_get (D := (dC, dI)) (ci := 11) (v := .int (st127 0 45)) (C := RX12) (T := TX12) (N := 47) hx hb hts ii_X12_readSaid hown hK hP 0 rfl rfl 45 (by decide) (hts _ mm_X12_readSaid_2) (fun _ hh => hh) rfl dX12_readSaid_168 ?_
                    refine zz_top (v := 1) (by show st127 0 45 = _; rw [(hFst127 0 45 (by decide)).1, (hFst108 0 45 (by decide)).1, est106, up2_same]) ?_
                    refine lv_iconst (v := 1) hx hb dX12_readSaid_171 (by decide) ?_
                    refine lv_isub hx hb dX12_readSaid_172 ?_
                    refine zz_top (v := 0) (by decide) ?_
                    refine va_put (D := (dC, dI)) (ci := 11) (v := .int 0) (ty := .int) (C := RX12) (T := TX12) (N := 47) hx hb hts ii_X12_readSaid tyX12 tyX12_ok nmX12 hown hK hP (mD hN _ _ _ _) hS 0 rfl rfl 45 (by decide) (hts _ mm_X12_readSaid_2) (fun _ hh => hh) rfl (by decide +kernel) rfl rfl (Nat.le_of_ble_eq_true rfl) dX12_readSaid_173 (fun H locs hP _ hS => ?_)
                    have hP : va_P (dC, dI) vwCl (mw ar cy (up2 st127 0 45 0) sl128) H := hP
                    obtain ⟨st139, est139⟩ : ∃ y, y = up2 st127 0 45 0 := ⟨_, rfl⟩
                    have hG : MG [1, 2, 3, 6, 7, 13, 14, 15, 20, 21, 22] st st139 := by rw [est139]; exact hG.up (r0) (pn (by decide : pcl 0 45 = 11) (by decide))
                    rw [← est139] at hP
                    have hF : FM 6 st sl st139 sl128 := by rw [est139]; exact hF.up (by decide)
                    have hT : TM B g m (tkx B g m (tkx B g m p)) st139 sl128 := by rw [est139]; exact hT.up (by omega)
                    have hR : RN c nm st139 sl128 := by rw [est139]; exact hR.up (by omega)
                    refine lv_iload_n hx hb dX12_readSaid_176 rfl (lv_at hl 0 rfl) ?_
                    exact W.zret (v := 1) hx hb hr rfl (fun t ht hW => ⟨⟨1, (st139, sl128), rfl, ⟨hG, hF, Or.inl (⟨(tkx B g m (tkx B g m p)), (gn + 1), (go + 1), gn, rfl, hT, by show st139 0 43 = _; rw [est139, up2_ne (r := 0) (k := 45) (a := 0) (j := 43) _ _ (by omega), hf129], by show st139 0 44 = _; rw [est139, up2_ne (r := 0) (k := 45) (a := 0) (j := 44) _ _ (by omega), (hFst127 0 44 (by decide)).1, (hFst108 0 44 (by decide)).1, est106, up2_ne (r := 0) (k := 45) (a := 0) (j := 44) _ _ (by omega), est105, up2_same], by show st139 0 45 = _; rw [est139, up2_same], by show st139 0 46 = _; rw [est139, up2_ne (r := 0) (k := 45) (a := 0) (j := 46) _ _ (by omega), hf130], by omega, by omega, by omega, by omega, by omega, (sO_i (d := 7) (Or.inr ⟨by omega, by omega⟩) (by omega)).trans ((sIn_m hf4 (by omega)).trans (hf131 _)), by show st139 0 10 = st 0 10; rw [est139, up2_ne (r := 0) (k := 45) (a := 0) (j := 10) _ _ (by omega), hk132, (hFst108 0 10 (by decide)).1, est106, up2_ne (r := 0) (k := 45) (a := 0) (j := 10) _ _ (by omega), est105, up2_ne (r := 0) (k := 44) (a := 0) (j := 10) _ _ (by omega)]⟩)⟩, mB.of ht hP⟩, hS.F ht⟩) hS.2.2 dX12_readSaid_177
                  · refine lv_goto (tgt := 165) hx hb dX12_readSaid_157 (by decide) ?_
                    refine lv_istore_n (lv' := [(3, .int 0), (2, .int 18), (1, .int 0), (0, .ref (ar 0))]) hx hb dX12_readSaid_165 rfl hl (by decide) rfl (fun ls hl => ?_)
                    refine lv_aload_n hx hb dX12_readSaid_166 rfl (lv_at hl 3 rfl) ?_
                    refine lv_dup hx hb dX12_readSaid_167 rfl ?_
                    refine va_get (D := (dC, dI)) (ci := 11) (v := .int (st127 0 45)) (C := RX12) (T := TX12) (N := 47) hx hb hts ii_X12_readSaid hown hK hP 0 rfl rfl 45 (by decide) (hts _ mm_X12_readSaid_2) (fun _ hh => hh) rfl dX12_readSaid_168 ?_
                    refine zz_top (v := 1) (by show st127 0 45 = _; rw [(hFst127 0 45 (by decide)).1, (hFst108 0 45 (by decide)).1, est106, up2_same]) ?_
                    refine lv_iconst (v := 1) hx hb dX12_readSaid_171 (by decide) ?_
                    refine lv_isub hx hb dX12_readSaid_172 ?_
                    refine zz_top (v := 0) (by decide) ?_
                    refine va_put (D := (dC, dI)) (ci := 11) (v := .int 0) (ty := .int) (C := RX12) (T := TX12) (N := 47) hx hb hts ii_X12_readSaid tyX12 tyX12_ok nmX12 hown hK hP (mD hN _ _ _ _) hS 0 rfl rfl 45 (by decide) (hts _ mm_X12_readSaid_2) (fun _ hh => hh) rfl (by decide +kernel) rfl rfl (Nat.le_of_ble_eq_true rfl) dX12_readSaid_173 (fun H locs hP _ hS => ?_)
                    have hP : va_P (dC, dI) vwCl (mw ar cy (up2 st127 0 45 0) sl128) H := hP
                    obtain ⟨st140, est140⟩ : ∃ y, y = up2 st127 0 45 0 := ⟨_, rfl⟩
                    have hG : MG [1, 2, 3, 6, 7, 13, 14, 15, 20, 21, 22] st st140 := by rw [est140]; exact hG.up (r0) (pn (by decide : pcl 0 45 = 11) (by decide))
                    rw [← est140] at hP
                    have hF : FM 6 st sl st140 sl128 := by rw [est140]; exact hF.up (by decide)
                    have hR : RN c nm st140 sl128 := by rw [est140]; exact hR.up (by omega)
                    refine lv_iload_n hx hb dX12_readSaid_176 rfl (lv_at hl 0 rfl) ?_
                    exact W.zret (v := 0) hx hb hr rfl (fun t ht hW => ⟨⟨0, (st140, sl128), rfl, ⟨hG, hF, Or.inr (⟨n133, n134, rfl, by show st140 0 10 = _; rw [est140, up2_ne (r := 0) (k := 45) (a := 0) (j := 10) _ _ (by omega), hf135], by show st140 0 11 = _; rw [est140, up2_ne (r := 0) (k := 45) (a := 0) (j := 11) _ _ (by omega), hf136], hf137, (sO_i (d := 7) (Or.inr ⟨by omega, by omega⟩) (by omega)).trans ((sIn_m hf4 (by omega)).trans (hf138 _)), by show st140 0 45 = _; rw [est140, up2_same]⟩)⟩, mB.of ht hP⟩, hS.F ht⟩) hS.2.2 dX12_readSaid_177
                have hcw141 : k87 = 19 := by omega
                have hl : lv_has ls 4 [(3, .int 1), (2, .int 19), (1, .int 0), (0, .ref (ar 0))] := by rw [hcw141] at hl; exact hl
                refine lv_aload_n hx hb dX12_readSaid_152 rfl (lv_at hl 3 rfl) ?_
                refine lv_iload_n hx hb dX12_readSaid_153 rfl (lv_at hl 1 rfl) ?_
                refine va_calli (va_runV (As := [.int 19]) (rest := []) ⟨hx, hb, hml, hown, hts⟩ (f_readOf19 l dC dI ar cy _ hN st108 sl109 B g m (tkx B g m p) c nm gn hG.1 (MBt.fr hB hF) hT hR (by rw [(hFst108 0 43 (by decide)).1, est106, up2_ne (r := 0) (k := 45) (a := 0) (j := 43) _ _ (by omega), est105, up2_ne (r := 0) (k := 44) (a := 0) (j := 43) _ _ (by omega), h43]) (by omega)) (cwV 1 hts gX12_readSaid_X12_readOf rfl rfl rfl (by decide +kernel) ⟨Nat.le_of_ble_eq_true rfl, Nat.le_of_ble_eq_true rfl⟩) ⟨fun a U g mk q => ⟨q.1, mPre.blind q.2⟩, va_recv hK hP (ci := 11) (q0 := 0) rfl rfl, fun U hU hW => ⟨rfl, mPre.of hP hK hU hW⟩⟩ rfl rfl hl.1 rfl (lv_room (Nat.le_of_ble_eq_true rfl)) dX12_readSaid_154 ⟨Nat.le_of_ble_eq_true rfl, Nat.le_of_ble_eq_true rfl⟩) hS (fun q _ h => MA.le hS.1 q h) (MA.le hS.1) (fun r142 x t H locs ht hvm hw hB9 _ _ hS => ?_)
                have hP := mB.at ht hB9
                clear hB9 ht hvm
                obtain ⟨st143, sl144⟩ := x
                obtain ⟨hG2, hF2, hw⟩ := hw
                dsimp only at hG2 hF2 hw
                have hP : va_P (dC, dI) vwCl (mw ar cy st143 sl144) _ := hP
                have hG : MG [1, 2, 3, 6, 7, 13, 14, 15, 20, 21, 22] st st143 := hG.tr hG2 (by decide)
                have hFst143 : FM 5 st108 sl109 st143 sl144 := hF2
                have hF : FM 6 st sl st143 sl144 := hF.tr hFst143 (by omega) (by omega)
                clear hG2 hF2
                have hR : RN c nm st143 sl144 := hR.fr hFst143
                rcases hw with ⟨rfl, hT, hf145, hf146, hf147, hk148⟩ | ⟨n149, n150, rfl, hf151, hf152, hf153, hf154⟩
                · have hp9 := hT.2.2.2.2.2.2
                  have hk1 := tkd_lt (B := B) (g := g) (m := m) (p := (tkx B g m (tkx B g m p)))
                  have hk2 := tkx_le (B := B) (g := g) (m := m) (p := (tkx B g m (tkx B g m p))) hp9
                  have hk3 := tka_le (B := B) (g := g) (m := m) (p := (tkx B g m (tkx B g m p))) hp9 hB.2.2.1
                  have hk4 := tkv_lt (p := (tkx B g m (tkx B g m p))) hB hp9
                  have hk5 := tkw_lt (B := B) (g := g) (m := m) (p := (tkx B g m (tkx B g m p)))
                  refine lv_goto (tgt := 165) hx hb dX12_readSaid_157 (by decide) ?_
                  refine lv_istore_n (lv' := [(3, .int 1), (2, .int 19), (1, .int 0), (0, .ref (ar 0))]) hx hb dX12_readSaid_165 rfl hl (by decide) rfl (fun ls hl => ?_)
                  refine lv_aload_n hx hb dX12_readSaid_166 rfl (lv_at hl 3 rfl) ?_
                  refine lv_dup hx hb dX12_readSaid_167 rfl ?_
                  refine va_get (D := (dC, dI)) (ci := 11) (v := .int (st143 0 45)) (C := RX12) (T := TX12) (N := 47) hx hb hts ii_X12_readSaid hown hK hP 0 rfl rfl 45 (by decide) (hts _ mm_X12_readSaid_2) (fun _ hh => hh) rfl dX12_readSaid_168 ?_
                  refine zz_top (v := 1) (by show st143 0 45 = _; rw [(hFst143 0 45 (by decide)).1, (hFst108 0 45 (by decide)).1, est106, up2_same]) ?_
                  refine lv_iconst (v := 1) hx hb dX12_readSaid_171 (by decide) ?_
                  refine lv_isub hx hb dX12_readSaid_172 ?_
                  refine zz_top (v := 0) (by decide) ?_
                  refine va_put (D := (dC, dI)) (ci := 11) (v := .int 0) (ty := .int) (C := RX12) (T := TX12) (N := 47) hx hb hts ii_X12_readSaid tyX12 tyX12_ok nmX12 hown hK hP (mD hN _ _ _ _) hS 0 rfl rfl 45 (by decide) (hts _ mm_X12_readSaid_2) (fun _ hh => hh) rfl (by decide +kernel) rfl rfl (Nat.le_of_ble_eq_true rfl) dX12_readSaid_173 (fun H locs hP _ hS => ?_)
                  have hP : va_P (dC, dI) vwCl (mw ar cy (up2 st143 0 45 0) sl144) H := hP
                  obtain ⟨st155, est155⟩ : ∃ y, y = up2 st143 0 45 0 := ⟨_, rfl⟩
                  have hG : MG [1, 2, 3, 6, 7, 13, 14, 15, 20, 21, 22] st st155 := by rw [est155]; exact hG.up (r0) (pn (by decide : pcl 0 45 = 11) (by decide))
                  rw [← est155] at hP
                  have hF : FM 6 st sl st155 sl144 := by rw [est155]; exact hF.up (by decide)
                  have hT : TM B g m (tkx B g m (tkx B g m p)) st155 sl144 := by rw [est155]; exact hT.up (by omega)
                  have hR : RN c nm st155 sl144 := by rw [est155]; exact hR.up (by omega)
                  refine lv_iload_n hx hb dX12_readSaid_176 rfl (lv_at hl 0 rfl) ?_
                  exact W.zret (v := 1) hx hb hr rfl (fun t ht hW => ⟨⟨1, (st155, sl144), rfl, ⟨hG, hF, Or.inl (⟨(tkx B g m (tkx B g m p)), (gn + 1), (go + 1), gn, rfl, hT, by show st155 0 43 = _; rw [est155, up2_ne (r := 0) (k := 45) (a := 0) (j := 43) _ _ (by omega), hf145], by show st155 0 44 = _; rw [est155, up2_ne (r := 0) (k := 45) (a := 0) (j := 44) _ _ (by omega), (hFst143 0 44 (by decide)).1, (hFst108 0 44 (by decide)).1, est106, up2_ne (r := 0) (k := 45) (a := 0) (j := 44) _ _ (by omega), est105, up2_same], by show st155 0 45 = _; rw [est155, up2_same], by show st155 0 46 = _; rw [est155, up2_ne (r := 0) (k := 45) (a := 0) (j := 46) _ _ (by omega), hf146], by omega, by omega, by omega, by omega, by omega, (sO_i (d := 7) (Or.inr ⟨by omega, by omega⟩) (by omega)).trans ((sIn_a hf4 (by omega)).trans (hf147 _)), by show st155 0 10 = st 0 10; rw [est155, up2_ne (r := 0) (k := 45) (a := 0) (j := 10) _ _ (by omega), hk148, (hFst108 0 10 (by decide)).1, est106, up2_ne (r := 0) (k := 45) (a := 0) (j := 10) _ _ (by omega), est105, up2_ne (r := 0) (k := 44) (a := 0) (j := 10) _ _ (by omega)]⟩)⟩, mB.of ht hP⟩, hS.F ht⟩) hS.2.2 dX12_readSaid_177
                · refine lv_goto (tgt := 165) hx hb dX12_readSaid_157 (by decide) ?_
                  refine lv_istore_n (lv' := [(3, .int 0), (2, .int 19), (1, .int 0), (0, .ref (ar 0))]) hx hb dX12_readSaid_165 rfl hl (by decide) rfl (fun ls hl => ?_)
                  refine lv_aload_n hx hb dX12_readSaid_166 rfl (lv_at hl 3 rfl) ?_
                  refine lv_dup hx hb dX12_readSaid_167 rfl ?_
                  refine va_get (D := (dC, dI)) (ci := 11) (v := .int (st143 0 45)) (C := RX12) (T := TX12) (N := 47) hx hb hts ii_X12_readSaid hown hK hP 0 rfl rfl 45 (by decide) (hts _ mm_X12_readSaid_2) (fun _ hh => hh) rfl dX12_readSaid_168 ?_
                  refine zz_top (v := 1) (by show st143 0 45 = _; rw [(hFst143 0 45 (by decide)).1, (hFst108 0 45 (by decide)).1, est106, up2_same]) ?_
                  refine lv_iconst (v := 1) hx hb dX12_readSaid_171 (by decide) ?_
                  refine lv_isub hx hb dX12_readSaid_172 ?_
                  refine zz_top (v := 0) (by decide) ?_
                  refine va_put (D := (dC, dI)) (ci := 11) (v := .int 0) (ty := .int) (C := RX12) (T := TX12) (N := 47) hx hb hts ii_X12_readSaid tyX12 tyX12_ok nmX12 hown hK hP (mD hN _ _ _ _) hS 0 rfl rfl 45 (by decide) (hts _ mm_X12_readSaid_2) (fun _ hh => hh) rfl (by decide +kernel) rfl rfl (Nat.le_of_ble_eq_true rfl) dX12_readSaid_173 (fun H locs hP _ hS => ?_)
                  have hP : va_P (dC, dI) vwCl (mw ar cy (up2 st143 0 45 0) sl144) H := hP
                  obtain ⟨st156, est156⟩ : ∃ y, y = up2 st143 0 45 0 := ⟨_, rfl⟩
                  have hG : MG [1, 2, 3, 6, 7, 13, 14, 15, 20, 21, 22] st st156 := by rw [est156]; exact hG.up (r0) (pn (by decide : pcl 0 45 = 11) (by decide))
                  rw [← est156] at hP
                  have hF : FM 6 st sl st156 sl144 := by rw [est156]; exact hF.up (by decide)
                  have hR : RN c nm st156 sl144 := by rw [est156]; exact hR.up (by omega)
                  refine lv_iload_n hx hb dX12_readSaid_176 rfl (lv_at hl 0 rfl) ?_
                  exact W.zret (v := 0) hx hb hr rfl (fun t ht hW => ⟨⟨0, (st156, sl144), rfl, ⟨hG, hF, Or.inr (⟨n149, n150, rfl, by show st156 0 10 = _; rw [est156, up2_ne (r := 0) (k := 45) (a := 0) (j := 10) _ _ (by omega), hf151], by show st156 0 11 = _; rw [est156, up2_ne (r := 0) (k := 45) (a := 0) (j := 11) _ _ (by omega), hf152], hf153, (sO_i (d := 7) (Or.inr ⟨by omega, by omega⟩) (by omega)).trans ((sIn_a hf4 (by omega)).trans (hf154 _)), by show st156 0 45 = _; rw [est156, up2_same]⟩)⟩, mB.of ht hP⟩, hS.F ht⟩) hS.2.2 dX12_readSaid_177
            · have c22 : ¬ 18 ≤ k87 := fun hh => c22 ((nI_leI (a := 18) (b := k87) (by omega) (by omega)).mpr hh)
              refine lv_aload_n hx hb dX12_readSaid_128 rfl (lv_at hl 3 rfl) ?_
              refine lv_aload_n hx hb dX12_readSaid_129 rfl (lv_at hl 3 rfl) ?_
              refine lv_bipush (v := 50) hx hb dX12_readSaid_130 (by decide) ?_
              refine lv_iload_n hx hb dX12_readSaid_132 rfl (lv_at hl 1 rfl) ?_
              refine lv_iadd hx hb dX12_readSaid_133 ?_
              refine zz_top (v := nI (50 + k87)) (nI_add 50 k87) ?_
              refine lv_iconst (v := 0) hx hb dX12_readSaid_134 (by decide) ?_
              refine lv_iconst (v := 0) hx hb dX12_readSaid_135 (by decide) ?_
              refine lv_iconst (v := 0) hx hb dX12_readSaid_136 (by decide) ?_
              refine va_calli (va_runV (As := [.int (nI (50 + k87)), .int 0, .int 0, .int 0]) (rest := [.ref (ar 0)]) ⟨hx, hb, hml, hown, hts⟩ (f_saysOne l dC dI ar cy _ hN st108 sl109 (nI (50 + k87)) 0 0 0 B g m (tkx B g m p) gn hG.1 (MBt.fr hB hF) hT (by rw [(hFst108 0 43 (by decide)).1, est106, up2_ne (r := 0) (k := 45) (a := 0) (j := 43) _ _ (by omega), est105, up2_ne (r := 0) (k := 44) (a := 0) (j := 43) _ _ (by omega), h43]) (by omega)) (cwV 4 hts gX12_readSaid_X12_saysOne rfl rfl rfl (by decide +kernel) ⟨Nat.le_of_ble_eq_true rfl, Nat.le_of_ble_eq_true rfl⟩) ⟨fun a U g mk q => ⟨q.1, mPre.blind q.2⟩, va_recv hK hP (ci := 11) (q0 := 0) rfl rfl, fun U hU hW => ⟨rfl, mPre.of hP hK hU hW⟩⟩ rfl rfl hl.1 rfl (lv_room (Nat.le_of_ble_eq_true rfl)) dX12_readSaid_137 ⟨Nat.le_of_ble_eq_true rfl, Nat.le_of_ble_eq_true rfl⟩) hS (fun q _ h => MA.le hS.1 q h) (MA.le hS.1) (fun r157 x t H locs ht hvm hw hB9 _ _ hS => ?_)
              have hP := mB.at ht hB9
              clear hB9 ht hvm
              obtain ⟨st158, sl159⟩ := x
              obtain ⟨hG2, hF2, hw⟩ := hw
              dsimp only at hG2 hF2 hw
              have hP : va_P (dC, dI) vwCl (mw ar cy st158 sl159) _ := hP
              have hG : MG [1, 2, 3, 6, 7, 13, 14, 15, 20, 21, 22] st st158 := hG.tr hG2 (by decide)
              have hFst158 : FM 5 st108 sl109 st158 sl159 := hF2
              have hF : FM 6 st sl st158 sl159 := hF.tr hFst158 (by omega) (by omega)
              clear hG2 hF2
              have hR : RN c nm st158 sl159 := hR.fr hFst158
              obtain ⟨n160, rfl, hf161, hf162, hT, hk163⟩ := hw
              have hp9 := hT.2.2.2.2.2.2
              have hk1 := tkd_lt (B := B) (g := g) (m := m) (p := (tkx B g m p))
              have hk2 := tkx_le (B := B) (g := g) (m := m) (p := (tkx B g m p)) hp9
              have hk3 := tka_le (B := B) (g := g) (m := m) (p := (tkx B g m p)) hp9 hB.2.2.1
              have hk4 := tkv_lt (p := (tkx B g m p)) hB hp9
              have hk5 := tkw_lt (B := B) (g := g) (m := m) (p := (tkx B g m p))
              refine va_put (D := (dC, dI)) (ci := 11) (v := .int (nI n160)) (ty := .int) (C := RX12) (T := TX12) (N := 47) hx hb hts ii_X12_readSaid tyX12 tyX12_ok nmX12 hown hK hP (mD hN _ _ _ _) hS 0 rfl rfl 46 (by decide) (hts _ mm_X12_readSaid_3) (fun _ hh => hh) rfl (by decide +kernel) rfl rfl (Nat.le_of_ble_eq_true rfl) dX12_readSaid_140 (fun H locs hP _ hS => ?_)
              have hP : va_P (dC, dI) vwCl (mw ar cy (up2 st158 0 46 (nI n160)) sl159) H := hP
              obtain ⟨st164, est164⟩ : ∃ y, y = up2 st158 0 46 (nI n160) := ⟨_, rfl⟩
              have hG : MG [1, 2, 3, 6, 7, 13, 14, 15, 20, 21, 22] st st164 := by rw [est164]; exact hG.up (rn (n := n160) (by decide : mr 0 46 = 60) (by omega)) (pn (by decide : pcl 0 46 = 12) (by decide))
              rw [← est164] at hP
              have hF : FM 6 st sl st164 sl159 := by rw [est164]; exact hF.up (by decide)
              have hT : TM B g m (tkx B g m p) st164 sl159 := by rw [est164]; exact hT.up (by omega)
              have hR : RN c nm st164 sl159 := by rw [est164]; exact hR.up (by omega)
              refine lv_goto (tgt := 166) hx hb dX12_readSaid_143 (by decide) ?_
              refine lv_aload_n hx hb dX12_readSaid_166 rfl (lv_at hl 3 rfl) ?_
              refine lv_dup hx hb dX12_readSaid_167 rfl ?_
              refine va_get (D := (dC, dI)) (ci := 11) (v := .int (st164 0 45)) (C := RX12) (T := TX12) (N := 47) hx hb hts ii_X12_readSaid hown hK hP 0 rfl rfl 45 (by decide) (hts _ mm_X12_readSaid_2) (fun _ hh => hh) rfl dX12_readSaid_168 ?_
              refine zz_top (v := 1) (by show st164 0 45 = _; rw [est164, up2_ne (r := 0) (k := 46) (a := 0) (j := 45) _ _ (by omega), (hFst158 0 45 (by decide)).1, (hFst108 0 45 (by decide)).1, est106, up2_same]) ?_
              refine lv_iconst (v := 1) hx hb dX12_readSaid_171 (by decide) ?_
              refine lv_isub hx hb dX12_readSaid_172 ?_
              refine zz_top (v := 0) (by decide) ?_
              refine va_put (D := (dC, dI)) (ci := 11) (v := .int 0) (ty := .int) (C := RX12) (T := TX12) (N := 47) hx hb hts ii_X12_readSaid tyX12 tyX12_ok nmX12 hown hK hP (mD hN _ _ _ _) hS 0 rfl rfl 45 (by decide) (hts _ mm_X12_readSaid_2) (fun _ hh => hh) rfl (by decide +kernel) rfl rfl (Nat.le_of_ble_eq_true rfl) dX12_readSaid_173 (fun H locs hP _ hS => ?_)
              have hP : va_P (dC, dI) vwCl (mw ar cy (up2 st164 0 45 0) sl159) H := hP
              obtain ⟨st165, est165⟩ : ∃ y, y = up2 st164 0 45 0 := ⟨_, rfl⟩
              have hG : MG [1, 2, 3, 6, 7, 13, 14, 15, 20, 21, 22] st st165 := by rw [est165]; exact hG.up (r0) (pn (by decide : pcl 0 45 = 11) (by decide))
              rw [← est165] at hP
              have hF : FM 6 st sl st165 sl159 := by rw [est165]; exact hF.up (by decide)
              have hT : TM B g m (tkx B g m p) st165 sl159 := by rw [est165]; exact hT.up (by omega)
              have hR : RN c nm st165 sl159 := by rw [est165]; exact hR.up (by omega)
              refine lv_iload_n hx hb dX12_readSaid_176 rfl (lv_at hl 0 rfl) ?_
              exact W.zret (v := 1) hx hb hr rfl (fun t ht hW => ⟨⟨1, (st165, sl159), rfl, ⟨hG, hF, Or.inl (⟨(tkx B g m p), (gn + 1), (go + 1), n160, rfl, hT, by show st165 0 43 = _; rw [est165, up2_ne (r := 0) (k := 45) (a := 0) (j := 43) _ _ (by omega), est164, up2_ne (r := 0) (k := 46) (a := 0) (j := 43) _ _ (by omega), hf162], by show st165 0 44 = _; rw [est165, up2_ne (r := 0) (k := 45) (a := 0) (j := 44) _ _ (by omega), est164, up2_ne (r := 0) (k := 46) (a := 0) (j := 44) _ _ (by omega), (hFst158 0 44 (by decide)).1, (hFst108 0 44 (by decide)).1, est106, up2_ne (r := 0) (k := 45) (a := 0) (j := 44) _ _ (by omega), est105, up2_same], by show st165 0 45 = _; rw [est165, up2_same], by show st165 0 46 = _; rw [est165, up2_ne (r := 0) (k := 45) (a := 0) (j := 46) _ _ (by omega), est164, up2_same], by omega, by omega, by omega, by omega, by omega, (sO_i (d := 7) (Or.inr ⟨by omega, by omega⟩) (by omega)).trans (sIn_o hf4 (by omega)), by show st165 0 10 = st 0 10; rw [est165, up2_ne (r := 0) (k := 45) (a := 0) (j := 10) _ _ (by omega), est164, up2_ne (r := 0) (k := 46) (a := 0) (j := 10) _ _ (by omega), hk163, (hFst108 0 10 (by decide)).1, est106, up2_ne (r := 0) (k := 45) (a := 0) (j := 10) _ _ (by omega), est105, up2_ne (r := 0) (k := 44) (a := 0) (j := 10) _ _ (by omega)]⟩)⟩, mB.of ht hP⟩, hS.F ht⟩) hS.2.2 dX12_readSaid_177
          · have c21 : k87 = 15 := (nI_eq (a := k87) (b := 15) (by omega) (by omega)).mp c21
            refine lv_aload_n hx hb dX12_readSaid_114 rfl (lv_at hl 3 rfl) ?_
            refine va_calli (va_runV (As := []) (rest := []) ⟨hx, hb, hml, hown, hts⟩ (f_readNot_1 l dC dI ar cy _ hN st108 sl109 B g m (tkx B g m p) c nm gn (go + 1) hG.1 (MBt.fr hB hF) hT hR (by rw [(hFst108 0 43 (by decide)).1, est106, up2_ne (r := 0) (k := 45) (a := 0) (j := 43) _ _ (by omega), est105, up2_ne (r := 0) (k := 44) (a := 0) (j := 43) _ _ (by omega), h43]) (by rw [(hFst108 0 44 (by decide)).1, est106, up2_ne (r := 0) (k := 45) (a := 0) (j := 44) _ _ (by omega), est105, up2_same]) (by rw [(hFst108 0 45 (by decide)).1, est106, up2_same]) (by omega) (by omega)) (cwV 0 hts gX12_readSaid_X12_readNot rfl rfl rfl (by decide +kernel) ⟨Nat.le_of_ble_eq_true rfl, Nat.le_of_ble_eq_true rfl⟩) ⟨fun a U g mk q => ⟨q.1, mPre.blind q.2⟩, va_recv hK hP (ci := 11) (q0 := 0) rfl rfl, fun U hU hW => ⟨rfl, mPre.of hP hK hU hW⟩⟩ rfl rfl hl.1 rfl (lv_room (Nat.le_of_ble_eq_true rfl)) dX12_readSaid_115 ⟨Nat.le_of_ble_eq_true rfl, Nat.le_of_ble_eq_true rfl⟩) hS (fun q _ h => MA.le hS.1 q h) (MA.le hS.1) (fun r166 x t H locs ht hvm hw hB9 _ _ hS => ?_)
            have hP := mB.at ht hB9
            clear hB9 ht hvm
            obtain ⟨st167, sl168⟩ := x
            obtain ⟨hG2, hF2, hw⟩ := hw
            dsimp only at hG2 hF2 hw
            have hP : va_P (dC, dI) vwCl (mw ar cy st167 sl168) _ := hP
            have hG : MG [1, 2, 3, 6, 7, 13, 14, 15, 20, 21, 22] st st167 := hG.tr hG2 (by decide)
            have hFst167 : FM 6 st108 sl109 st167 sl168 := hF2
            have hF : FM 6 st sl st167 sl168 := hF.tr hFst167 (by omega) (by omega)
            clear hG2 hF2
            have hR : RN c nm st167 sl168 := hR.fr hFst167
            rcases hw with ⟨n169, n170, n171, n172, rfl, hT, hf173, hf174, hf175, hf176, hf177, hf178, hf179, hf180, hf181, hf182, hk183⟩ | ⟨n184, n185, rfl, hf186, hf187, hf188, hf189, hf190⟩
            · have hp9 := hT.2.2.2.2.2.2
              have hk1 := tkd_lt (B := B) (g := g) (m := m) (p := n169)
              have hk2 := tkx_le (B := B) (g := g) (m := m) (p := n169) hp9
              have hk3 := tka_le (B := B) (g := g) (m := m) (p := n169) hp9 hB.2.2.1
              have hk4 := tkv_lt (p := n169) hB hp9
              have hk5 := tkw_lt (B := B) (g := g) (m := m) (p := n169)
              refine lv_istore_n (lv' := [(3, .int 1), (2, .int (nI k87)), (1, .int 0), (0, .ref (ar 0))]) hx hb dX12_readSaid_118 rfl hl (by decide) rfl (fun ls hl => ?_)
              refine lv_goto (tgt := 166) hx hb dX12_readSaid_119 (by decide) ?_
              refine lv_aload_n hx hb dX12_readSaid_166 rfl (lv_at hl 3 rfl) ?_
              refine lv_dup hx hb dX12_readSaid_167 rfl ?_
              refine va_get (D := (dC, dI)) (ci := 11) (v := .int (st167 0 45)) (C := RX12) (T := TX12) (N := 47) hx hb hts ii_X12_readSaid hown hK hP 0 rfl rfl 45 (by decide) (hts _ mm_X12_readSaid_2) (fun _ hh => hh) rfl dX12_readSaid_168 ?_
              refine zz_top (v := 1) (by show st167 0 45 = _; rw [hf175]) ?_
              refine lv_iconst (v := 1) hx hb dX12_readSaid_171 (by decide) ?_
              refine lv_isub hx hb dX12_readSaid_172 ?_
              refine zz_top (v := 0) (by decide) ?_
              refine va_put (D := (dC, dI)) (ci := 11) (v := .int 0) (ty := .int) (C := RX12) (T := TX12) (N := 47) hx hb hts ii_X12_readSaid tyX12 tyX12_ok nmX12 hown hK hP (mD hN _ _ _ _) hS 0 rfl rfl 45 (by decide) (hts _ mm_X12_readSaid_2) (fun _ hh => hh) rfl (by decide +kernel) rfl rfl (Nat.le_of_ble_eq_true rfl) dX12_readSaid_173 (fun H locs hP _ hS => ?_)
              have hP : va_P (dC, dI) vwCl (mw ar cy (up2 st167 0 45 0) sl168) H := hP
              obtain ⟨st191, est191⟩ : ∃ y, y = up2 st167 0 45 0 := ⟨_, rfl⟩
              have hG : MG [1, 2, 3, 6, 7, 13, 14, 15, 20, 21, 22] st st191 := by rw [est191]; exact hG.up (r0) (pn (by decide : pcl 0 45 = 11) (by decide))
              rw [← est191] at hP
              have hF : FM 6 st sl st191 sl168 := by rw [est191]; exact hF.up (by decide)
              have hT : TM B g m n169 st191 sl168 := by rw [est191]; exact hT.up (by omega)
              have hR : RN c nm st191 sl168 := by rw [est191]; exact hR.up (by omega)
              refine lv_iload_n hx hb dX12_readSaid_176 rfl (lv_at hl 0 rfl) ?_
              exact W.zret (v := 1) hx hb hr rfl (fun t ht hW => ⟨⟨1, (st191, sl168), rfl, ⟨hG, hF, Or.inl (⟨n169, n170, n171, n172, rfl, hT, by show st191 0 43 = _; rw [est191, up2_ne (r := 0) (k := 45) (a := 0) (j := 43) _ _ (by omega), hf173], by show st191 0 44 = _; rw [est191, up2_ne (r := 0) (k := 45) (a := 0) (j := 44) _ _ (by omega), hf174], by show st191 0 45 = _; rw [est191, up2_same], by show st191 0 46 = _; rw [est191, up2_ne (r := 0) (k := 45) (a := 0) (j := 46) _ _ (by omega), hf176], by omega, by omega, by omega, by omega, by omega, (sO_i (d := 7) (Or.inr ⟨by omega, by omega⟩) (by omega)).trans ((sIn_n hf4 (by omega)).trans hf182), by show st191 0 10 = st 0 10; rw [est191, up2_ne (r := 0) (k := 45) (a := 0) (j := 10) _ _ (by omega), hk183, (hFst108 0 10 (by decide)).1, est106, up2_ne (r := 0) (k := 45) (a := 0) (j := 10) _ _ (by omega), est105, up2_ne (r := 0) (k := 44) (a := 0) (j := 10) _ _ (by omega)]⟩)⟩, mB.of ht hP⟩, hS.F ht⟩) hS.2.2 dX12_readSaid_177
            · refine lv_istore_n (lv' := [(3, .int 0), (2, .int (nI k87)), (1, .int 0), (0, .ref (ar 0))]) hx hb dX12_readSaid_118 rfl hl (by decide) rfl (fun ls hl => ?_)
              refine lv_goto (tgt := 166) hx hb dX12_readSaid_119 (by decide) ?_
              refine lv_aload_n hx hb dX12_readSaid_166 rfl (lv_at hl 3 rfl) ?_
              refine lv_dup hx hb dX12_readSaid_167 rfl ?_
              refine va_get (D := (dC, dI)) (ci := 11) (v := .int (st167 0 45)) (C := RX12) (T := TX12) (N := 47) hx hb hts ii_X12_readSaid hown hK hP 0 rfl rfl 45 (by decide) (hts _ mm_X12_readSaid_2) (fun _ hh => hh) rfl dX12_readSaid_168 ?_
              refine zz_top (v := 1) (by show st167 0 45 = _; rw [hf190]) ?_
              refine lv_iconst (v := 1) hx hb dX12_readSaid_171 (by decide) ?_
              refine lv_isub hx hb dX12_readSaid_172 ?_
              refine zz_top (v := 0) (by decide) ?_
              refine va_put (D := (dC, dI)) (ci := 11) (v := .int 0) (ty := .int) (C := RX12) (T := TX12) (N := 47) hx hb hts ii_X12_readSaid tyX12 tyX12_ok nmX12 hown hK hP (mD hN _ _ _ _) hS 0 rfl rfl 45 (by decide) (hts _ mm_X12_readSaid_2) (fun _ hh => hh) rfl (by decide +kernel) rfl rfl (Nat.le_of_ble_eq_true rfl) dX12_readSaid_173 (fun H locs hP _ hS => ?_)
              have hP : va_P (dC, dI) vwCl (mw ar cy (up2 st167 0 45 0) sl168) H := hP
              obtain ⟨st192, est192⟩ : ∃ y, y = up2 st167 0 45 0 := ⟨_, rfl⟩
              have hG : MG [1, 2, 3, 6, 7, 13, 14, 15, 20, 21, 22] st st192 := by rw [est192]; exact hG.up (r0) (pn (by decide : pcl 0 45 = 11) (by decide))
              rw [← est192] at hP
              have hF : FM 6 st sl st192 sl168 := by rw [est192]; exact hF.up (by decide)
              have hR : RN c nm st192 sl168 := by rw [est192]; exact hR.up (by omega)
              refine lv_iload_n hx hb dX12_readSaid_176 rfl (lv_at hl 0 rfl) ?_
              exact W.zret (v := 0) hx hb hr rfl (fun t ht hW => ⟨⟨0, (st192, sl168), rfl, ⟨hG, hF, Or.inr (⟨n184, n185, rfl, by show st192 0 10 = _; rw [est192, up2_ne (r := 0) (k := 45) (a := 0) (j := 10) _ _ (by omega), hf186], by show st192 0 11 = _; rw [est192, up2_ne (r := 0) (k := 45) (a := 0) (j := 11) _ _ (by omega), hf187], hf188, (sO_i (d := 7) (Or.inr ⟨by omega, by omega⟩) (by omega)).trans ((sIn_n hf4 (by omega)).trans hf189), by show st192 0 45 = _; rw [est192, up2_same]⟩)⟩, mB.of ht hP⟩, hS.F ht⟩) hS.2.2 dX12_readSaid_177
      · refine lv_if_ne (tgt := 30) hx hb dX12_readSaid_21 (by decide) (fun cc => absurd (by decide) cc) (fun _ => ?_)
        refine lv_iinc (v := (nI (k87 + 1))) (lv' := [(2, .int (nI (k87 + 1))), (1, .int 0), (0, .ref (ar 0))]) hx hb dX12_readSaid_24 hl (k := 0) rfl (nI_add k87 1) (by decide) rfl (fun ls hl => ?_)
        refine lv_goto (tgt := 10) hx hb dX12_readSaid_27 (by decide) ?_
        exact ih91 (25 - (k87 + 1)) _ _ _ _ (by omega) ⟨(k87 + 1), rfl, by omega, by omega, fun i h1 h2 hz => if h9 : i = k87 then (by omega) else hv90_0 i h1 (by omega) hz, hP, hS, lv_sub hl [0, 1, 2] rfl, rfl⟩
