set_option maxHeartbeats 4000000 in
set_option maxRecDepth 100000 in
theorem f_readSaid_5 (l : Launch) (dC : Nat → ClassId) (dI : Nat → Nat → Nat) (ar : Nat → Nat) (cy : Nat → ClassId) (sz : Nat) (hN : MN ar) (st : Nat → Nat → Int32) (sl : Nat → Nat → Int64) (B : Nat → Nat) (g m : Nat) (p : Nat) (c : Nat → Nat) (nm : Nat → Nat → Nat) (gn : Nat) (go : Nat) (hI : MI st) (hB : MBt B g m st) (hT : TM B g m p st sl) (hR : RN c nm st sl) (h43 : st 0 43 = nI gn) (h44 : st 0 44 = nI go) (h45 : st 0 45 = 5) (hgn : gn ≤ 2 * go) (hgo : go ≤ 20) : Met l yX12_readSaid wsX12_readSaid ({ frames := 15, cells := 0, slots := 0, locals := 324 }) (va_Pc [.ref (ar 0)] (mPre dC dI ar cy sz st sl)) (va_Qi (fun (r : Int32) (x : MT) => MG [1, 2, 3, 6, 7, 13, 14, 15, 20, 21, 22] st x.1 ∧ FM 6 st sl x.1 x.2 ∧ ((∃ q : Nat, ∃ n1 : Nat, ∃ o1 : Nat, ∃ t1 : Nat, r = 1 ∧ TM B g m q x.1 x.2 ∧ x.1 0 43 = nI n1 ∧ x.1 0 44 = nI o1 ∧ x.1 0 45 = 5 ∧ x.1 0 46 = nI t1 ∧ t1 < n1 ∧ n1 + 2 * go + 1 ≤ gn + 2 * o1 ∧ go + 1 ≤ o1 ∧ o1 ≤ 20 ∧ gn ≤ n1 ∧ sOne B g m c nm 3 p go = (0, q, o1)) ∨ (∃ f : Nat, ∃ a : Nat, r = 0 ∧ x.1 0 10 = nI f ∧ x.1 0 11 = nI a ∧ 1 ≤ f ∧ sOne B g m c nm 3 p go = sf f a ∧ x.1 0 45 = 5))) (mB dC dI ar cy) (MA ar sz)) 0 0 (MA ar sz) := by
  refine Met.ofW (cc := cX12_readSaid) (maxL := 4) (ret := (some .boolean)) (by decide) rfl ?_
  intro p9 e s m9 args below meth c9 s₁ B9 hml hv
  obtain ⟨rfl, hsz, hP, hK⟩ := hv
  have hx := B9.exec
  have hb := B9.bytes
  have hr := B9.returns
  have hts := atoms_spec (ws := wsX12_readSaid) B9.pre
  have hown : s.vm.findClass RX12 = some m9.cls := findClass_of_methodNamed B9.named
  subst hsz
  have hS : va_S (MA ar s.heap.size) s.heap s.heap [] := va_S.rf
  have hG : MG [1, 2, 3, 6, 7, 13, 14, 15, 20, 21, 22] st st := MG.rf hI
  have hl := lv_entry ([.ref (ar 0)]) (n := 4) (Nat.le_of_ble_eq_true rfl)
  rw [lg_entry_eq]
  generalize (lg_sl ([.ref (ar 0)]) ++ List.replicate (4 - (lg_sl ([.ref (ar 0)])).length) Slot.unset).toArray = ls at hl ⊢
  have hl : lv_has ls 4 [(0, .ref (ar 0))] := hl
  clear hI
  have hB1 := hB.2.2.1
  have hB2 := hB.2.2.2.1
  have hF : FM 6 st sl st sl := FM.rf
  have hp9 := hT.2.2.2.2.2.2
  have hk1 := tkd_lt (B := B) (g := g) (m := m) (p := p)
  have hk2 := tkx_le (B := B) (g := g) (m := m) (p := p) hp9
  have hk3 := tka_le (B := B) (g := g) (m := m) (p := p) hp9 hB.2.2.1
  have hk4 := tkv_lt (p := p) hB hp9
  have hk5 := tkw_lt (B := B) (g := g) (m := m) (p := p)
  have hR9 := hR.2.1
  refine lv_aload_n hx hb dX12_readSaid_0 rfl (lv_at hl 0 rfl) ?_
  refine lv_bipush (v := 40) hx hb dX12_readSaid_1 (by decide) ?_
  refine va_calli (va_runV (As := [.int 40]) (rest := []) ⟨hx, hb, hml, hown, hts⟩ (f_isSign40 l dC dI ar cy _ hN st sl B g m p hG.1 (MBt.fr hB hF) hT) (cwV 1 hts gX12_readSaid_X12_isSign rfl rfl rfl (by decide +kernel) ⟨Nat.le_of_ble_eq_true rfl, Nat.le_of_ble_eq_true rfl⟩) ⟨fun a U g mk q => ⟨q.1, mPre.blind q.2⟩, va_recv hK hP (ci := 11) (q0 := 0) rfl rfl, fun U hU hW => ⟨rfl, mPre.of hP hK hU hW⟩⟩ rfl rfl hl.1 rfl (lv_room (Nat.le_of_ble_eq_true rfl)) dX12_readSaid_3 ⟨Nat.le_of_ble_eq_true rfl, Nat.le_of_ble_eq_true rfl⟩) hS (fun q _ h => MA.le hS.1 q h) (MA.le hS.1) (fun r1 x t H locs ht hvm hw hB9 _ _ hS => ?_)
  have hP := mB.at ht hB9
  clear hB9 ht hvm
  obtain ⟨rfl, hw⟩ := hw
  have hP : va_P (dC, dI) vwCl (mw ar cy st sl) _ := hP
  rcases hw with ⟨rfl, hf2, hf3⟩ | ⟨rfl, hf4⟩
  · refine lv_istore_n (lv' := [(1, .int 1), (0, .ref (ar 0))]) hx hb dX12_readSaid_6 rfl hl (by decide) rfl (fun ls hl => ?_)
    refine lv_bipush (v := 15) hx hb dX12_readSaid_7 (by decide) ?_
    refine lv_istore_n (lv' := [(2, .int 15), (1, .int 1), (0, .ref (ar 0))]) hx hb dX12_readSaid_9 rfl hl (by decide) rfl (fun ls hl => ?_)
    refine zz_wf (fun n stk H locs ls => ∃ k5 : Nat, n = 25 - k5 ∧ 15 ≤ k5 ∧ k5 < 25 ∧ (∀ i, 15 ≤ i → i < k5 → ¬ tkw B g m p = i) ∧ va_P (dC, dI) vwCl (mw ar cy st sl) H ∧ va_S (MA ar s.heap.size) s.heap H locs ∧ lv_has ls 4 [(2, .int (nI k5)), (1, .int 1), (0, .ref (ar 0))] ∧ stk = []) ?_ (25 - 15) _ _ _ _ ⟨15, rfl, by omega, by omega, fun i h1 h2 => absurd h1 (by omega), hP, hS, lv_sub hl [0, 1, 2] rfl, rfl⟩
    rintro nn stk H locs ls ⟨k5, hm8, hv6_0, hv7_1, hv8_0, hP, hS, hl, rfl⟩ ih9
    refine lv_iload_n hx hb dX12_readSaid_10 rfl (lv_at hl 0 rfl) ?_
    refine lv_bipush (v := 23) hx hb dX12_readSaid_11 (by decide) ?_
    refine lv_icmp_gt (tgt := 30) hx hb dX12_readSaid_13 (by decide) (fun c1 => ?_) (fun c1 => ?_)
    · have c1 : 23 < k5 := (nI_ltI (a := 23) (b := k5) (by omega) (by omega)).mp c1
      refine lv_iload_n hx hb dX12_readSaid_30 rfl (lv_at hl 1 rfl) ?_
      refine lv_if_ne (tgt := 46) hx hb dX12_readSaid_31 (by decide) (fun _ => ?_) (fun cc => absurd cc (by decide))
      refine lv_aload_n hx hb dX12_readSaid_46 rfl (lv_at hl 2 rfl) ?_
      refine va_get (D := (dC, dI)) (ci := 11) (v := .int (st 0 44)) (C := RX12) (T := TX12) (N := 47) hx hb hts ii_X12_readSaid hown hK hP 0 rfl rfl 44 (by decide) (hts _ mm_X12_readSaid_1) (fun _ hh => hh) rfl dX12_readSaid_47 ?_
      refine zz_top (v := (nI go)) (by show st 0 44 = _; rw [h44]) ?_
      refine lv_bipush (v := 20) hx hb dX12_readSaid_50 (by decide) ?_
      refine lv_icmp_eq (tgt := 64) hx hb dX12_readSaid_52 (by decide) (fun c3 => ?_) (fun c3 => ?_)
      · have c3 : go = 20 := (nI_eq (a := go) (b := 20) (by omega) (by omega)).mp c3
        refine lv_aload_n hx hb dX12_readSaid_64 rfl (lv_at hl 2 rfl) ?_
        refine lv_iconst (v := 4) hx hb dX12_readSaid_65 (by decide) ?_
        refine va_calli (va_runV (As := [.int 4]) (rest := []) ⟨hx, hb, hml, hown, hts⟩ (f_bad l dC dI ar cy _ hN st sl 4 B g m p (by omega) hG.1 (MBt.fr hB hF) hT) (cwV 1 hts gX12_readSaid_X12_bad rfl rfl rfl (by decide +kernel) ⟨Nat.le_of_ble_eq_true rfl, Nat.le_of_ble_eq_true rfl⟩) ⟨fun a U g mk q => ⟨q.1, mPre.blind q.2⟩, va_recv hK hP (ci := 11) (q0 := 0) rfl rfl, fun U hU hW => ⟨rfl, mPre.of hP hK hU hW⟩⟩ rfl rfl hl.1 rfl (lv_room (Nat.le_of_ble_eq_true rfl)) dX12_readSaid_66 ⟨Nat.le_of_ble_eq_true rfl, Nat.le_of_ble_eq_true rfl⟩) hS (fun q _ h => MA.le hS.1 q h) (MA.le hS.1) (fun r10 x t H locs ht hvm hw hB9 _ _ hS => ?_)
        have hP := mB.at ht hB9
        clear hB9 ht hvm
        obtain ⟨st11, sl12⟩ := x
        obtain ⟨hG2, hF2, hw⟩ := hw
        dsimp only at hG2 hF2 hw
        have hP : va_P (dC, dI) vwCl (mw ar cy st11 sl12) _ := hP
        have hG : MG [1, 2, 3, 6, 7, 13, 14, 15, 20, 21, 22] st st11 := hG.tr hG2 (by decide)
        have hFst11 : FM 2 st sl st11 sl12 := hF2
        have hF : FM 6 st sl st11 sl12 := hF.tr hFst11 (by omega) (by omega)
        clear hG2 hF2
        have hR : RN c nm st11 sl12 := hR.fr hFst11
        obtain ⟨rfl, hf13, hf14, hT⟩ := hw
        have hp9 := hT.2.2.2.2.2.2
        have hk1 := tkd_lt (B := B) (g := g) (m := m) (p := p)
        have hk2 := tkx_le (B := B) (g := g) (m := m) (p := p) hp9
        have hk3 := tka_le (B := B) (g := g) (m := m) (p := p) hp9 hB.2.2.1
        have hk4 := tkv_lt (p := p) hB hp9
        have hk5 := tkw_lt (B := B) (g := g) (m := m) (p := p)
        exact W.zret (v := 0) hx hb hr rfl (fun t ht hW => ⟨⟨0, (st11, sl12), rfl, ⟨hG, hF, Or.inr (⟨4, (tka B g m p), rfl, by show st11 0 10 = _; rw [hf13, bdk_n (by have h9 := @tkw_d B g m p; omega)], by show st11 0 11 = _; rw [hf14], by omega, sO_4 (Or.inl ⟨hf2, hf3⟩) (Or.inr (by omega)), by show st11 0 45 = _; rw [(hFst11 0 45 (by decide)).1, h45]⟩)⟩, mB.of ht hP⟩, hS.F ht⟩) hS.2.2 dX12_readSaid_69
      · have c3 : ¬ go = 20 := fun hh => c3 ((nI_eq (a := go) (b := 20) (by omega) (by omega)).mpr hh)
        refine lv_aload_n hx hb dX12_readSaid_55 rfl (lv_at hl 2 rfl) ?_
        refine va_get (D := (dC, dI)) (ci := 11) (v := .int (st 0 45)) (C := RX12) (T := TX12) (N := 47) hx hb hts ii_X12_readSaid hown hK hP 0 rfl rfl 45 (by decide) (hts _ mm_X12_readSaid_2) (fun _ hh => hh) rfl dX12_readSaid_56 ?_
        refine zz_top (v := 5) (by show st 0 45 = _; rw [h45]) ?_
        refine lv_bipush (v := 8) hx hb dX12_readSaid_59 (by decide) ?_
        refine lv_icmp_ne (tgt := 70) hx hb dX12_readSaid_61 (by decide) (fun _ => ?_) (fun cc => absurd cc (by decide))
        refine lv_aload_n hx hb dX12_readSaid_70 rfl (lv_at hl 2 rfl) ?_
        refine lv_dup hx hb dX12_readSaid_71 rfl ?_
        refine va_get (D := (dC, dI)) (ci := 11) (v := .int (st 0 44)) (C := RX12) (T := TX12) (N := 47) hx hb hts ii_X12_readSaid hown hK hP 0 rfl rfl 44 (by decide) (hts _ mm_X12_readSaid_1) (fun _ hh => hh) rfl dX12_readSaid_72 ?_
        refine zz_top (v := (nI go)) (by show st 0 44 = _; rw [h44]) ?_
        refine lv_iconst (v := 1) hx hb dX12_readSaid_75 (by decide) ?_
        refine lv_iadd hx hb dX12_readSaid_76 ?_
        refine zz_top (v := nI (go + 1)) (nI_add go 1) ?_
        refine va_put (D := (dC, dI)) (ci := 11) (v := .int (nI (go + 1))) (ty := .int) (C := RX12) (T := TX12) (N := 47) hx hb hts ii_X12_readSaid tyX12 tyX12_ok nmX12 hown hK hP (mD hN _ _ _ _) hS 0 rfl rfl 44 (by decide) (hts _ mm_X12_readSaid_1) (fun _ hh => hh) rfl (by decide +kernel) rfl rfl (Nat.le_of_ble_eq_true rfl) dX12_readSaid_77 (fun H locs hP _ hS => ?_)
        have hP : va_P (dC, dI) vwCl (mw ar cy (up2 st 0 44 (nI (go + 1))) sl) H := hP
        obtain ⟨st15, est15⟩ : ∃ y, y = up2 st 0 44 (nI (go + 1)) := ⟨_, rfl⟩
        have hG : MG [1, 2, 3, 6, 7, 13, 14, 15, 20, 21, 22] st st15 := by rw [est15]; exact hG.up (rn (n := (go + 1)) (by decide : mr 0 44 = 21) (by omega)) (pn (by decide : pcl 0 44 = 10) (by decide))
        rw [← est15] at hP
        have hF : FM 6 st sl st15 sl := by rw [est15]; exact hF.up (by decide)
        have hT : TM B g m p st15 sl := by rw [est15]; exact hT.up (by omega)
        have hR : RN c nm st15 sl := by rw [est15]; exact hR.up (by omega)
        refine lv_aload_n hx hb dX12_readSaid_80 rfl (lv_at hl 2 rfl) ?_
        refine lv_dup hx hb dX12_readSaid_81 rfl ?_
        refine va_get (D := (dC, dI)) (ci := 11) (v := .int (st15 0 45)) (C := RX12) (T := TX12) (N := 47) hx hb hts ii_X12_readSaid hown hK hP 0 rfl rfl 45 (by decide) (hts _ mm_X12_readSaid_2) (fun _ hh => hh) rfl dX12_readSaid_82 ?_
        refine zz_top (v := 5) (by show st15 0 45 = _; rw [est15, up2_ne (r := 0) (k := 44) (a := 0) (j := 45) _ _ (by omega), h45]) ?_
        refine lv_iconst (v := 1) hx hb dX12_readSaid_85 (by decide) ?_
        refine lv_iadd hx hb dX12_readSaid_86 ?_
        refine zz_top (v := 6) (by decide) ?_
        refine va_put (D := (dC, dI)) (ci := 11) (v := .int 6) (ty := .int) (C := RX12) (T := TX12) (N := 47) hx hb hts ii_X12_readSaid tyX12 tyX12_ok nmX12 hown hK hP (mD hN _ _ _ _) hS 0 rfl rfl 45 (by decide) (hts _ mm_X12_readSaid_2) (fun _ hh => hh) rfl (by decide +kernel) rfl rfl (Nat.le_of_ble_eq_true rfl) dX12_readSaid_87 (fun H locs hP _ hS => ?_)
        have hP : va_P (dC, dI) vwCl (mw ar cy (up2 st15 0 45 6) sl) H := hP
        obtain ⟨st16, est16⟩ : ∃ y, y = up2 st15 0 45 6 := ⟨_, rfl⟩
        have hG : MG [1, 2, 3, 6, 7, 13, 14, 15, 20, 21, 22] st st16 := by rw [est16]; exact hG.up (rn (n := 6) (by decide : mr 0 45 = 9) (by omega)) (pn (by decide : pcl 0 45 = 11) (by decide))
        rw [← est16] at hP
        have hF : FM 6 st sl st16 sl := by rw [est16]; exact hF.up (by decide)
        have hT : TM B g m p st16 sl := by rw [est16]; exact hT.up (by omega)
        have hR : RN c nm st16 sl := by rw [est16]; exact hR.up (by omega)
        refine lv_aload_n hx hb dX12_readSaid_90 rfl (lv_at hl 2 rfl) ?_
        refine va_callv (va_runV (As := []) (rest := []) ⟨hx, hb, hml, hown, hts⟩ (f_go l dC dI ar cy _ hN st16 sl B g m (tkx B g m p) hG.1 (MBt.fr hB hF) hT.1 hk2.2) (cwV 0 hts gX12_readSaid_X12_go rfl rfl rfl (by decide +kernel) ⟨Nat.le_of_ble_eq_true rfl, Nat.le_of_ble_eq_true rfl⟩) ⟨fun a U g mk q => ⟨q.1, mPre.blind q.2⟩, va_recv hK hP (ci := 11) (q0 := 0) rfl rfl, fun U hU hW => ⟨rfl, mPre.of hP hK hU hW⟩⟩ rfl rfl hl.1 rfl (lv_room (Nat.le_of_ble_eq_true rfl)) dX12_readSaid_91 ⟨Nat.le_of_ble_eq_true rfl, Nat.le_of_ble_eq_true rfl⟩) hS (fun q _ h => MA.le hS.1 q h) (MA.le hS.1) (fun x t H locs ht hvm hw hB9 _ _ hS => ?_)
        have hP := mB.at ht hB9
        clear hB9 ht hvm
        obtain ⟨st18, sl19⟩ := x
        obtain ⟨hG2, hF2, hw⟩ := hw
        dsimp only at hG2 hF2 hw
        have hP : va_P (dC, dI) vwCl (mw ar cy st18 sl19) _ := hP
        have hG : MG [1, 2, 3, 6, 7, 13, 14, 15, 20, 21, 22] st st18 := hG.tr hG2 (by decide)
        have hFst18 : FM 1 st16 sl st18 sl19 := hF2
        have hF : FM 6 st sl st18 sl19 := hF.tr hFst18 (by omega) (by omega)
        clear hG2 hF2
        have hR : RN c nm st18 sl19 := hR.fr hFst18
        have hT := hw
        have hp9 := hT.2.2.2.2.2.2
        have hk1 := tkd_lt (B := B) (g := g) (m := m) (p := (tkx B g m p))
        have hk2 := tkx_le (B := B) (g := g) (m := m) (p := (tkx B g m p)) hp9
        have hk3 := tka_le (B := B) (g := g) (m := m) (p := (tkx B g m p)) hp9 hB.2.2.1
        have hk4 := tkv_lt (p := (tkx B g m p)) hB hp9
        have hk5 := tkw_lt (B := B) (g := g) (m := m) (p := (tkx B g m p))
        refine lv_iconst (v := 1) hx hb dX12_readSaid_94 (by decide) ?_
        refine lv_istore_n (lv' := [(3, .int 1), (2, .int (nI k5)), (1, .int 1), (0, .ref (ar 0))]) hx hb dX12_readSaid_95 rfl hl (by decide) rfl (fun ls hl => ?_)
        refine lv_iload_n hx hb dX12_readSaid_96 rfl (lv_at hl 2 rfl) ?_
        refine lv_if_eq (tgt := 108) hx hb dX12_readSaid_97 (by decide) (fun cc => absurd cc (by decide)) (fun _ => ?_)
        refine lv_aload_n hx hb dX12_readSaid_100 rfl (lv_at hl 3 rfl) ?_
        refine va_calli (va_runV (As := []) (rest := []) ⟨hx, hb, hml, hown, hts⟩ (f_readBracket_6 l dC dI ar cy _ hN st18 sl19 B g m (tkx B g m p) c nm gn (go + 1) hG.1 (MBt.fr hB hF) hT hR (by rw [(hFst18 0 43 (by decide)).1, est16, up2_ne (r := 0) (k := 45) (a := 0) (j := 43) _ _ (by omega), est15, up2_ne (r := 0) (k := 44) (a := 0) (j := 43) _ _ (by omega), h43]) (by rw [(hFst18 0 44 (by decide)).1, est16, up2_ne (r := 0) (k := 45) (a := 0) (j := 44) _ _ (by omega), est15, up2_same]) (by rw [(hFst18 0 45 (by decide)).1, est16, up2_same]) (by omega) (by omega)) (cwV 0 hts gX12_readSaid_X12_readBracket rfl rfl rfl (by decide +kernel) ⟨Nat.le_of_ble_eq_true rfl, Nat.le_of_ble_eq_true rfl⟩) ⟨fun a U g mk q => ⟨q.1, mPre.blind q.2⟩, va_recv hK hP (ci := 11) (q0 := 0) rfl rfl, fun U hU hW => ⟨rfl, mPre.of hP hK hU hW⟩⟩ rfl rfl hl.1 rfl (lv_room (Nat.le_of_ble_eq_true rfl)) dX12_readSaid_101 ⟨Nat.le_of_ble_eq_true rfl, Nat.le_of_ble_eq_true rfl⟩) hS (fun q _ h => MA.le hS.1 q h) (MA.le hS.1) (fun r20 x t H locs ht hvm hw hB9 _ _ hS => ?_)
        have hP := mB.at ht hB9
        clear hB9 ht hvm
        obtain ⟨st21, sl22⟩ := x
        obtain ⟨hG2, hF2, hw⟩ := hw
        dsimp only at hG2 hF2 hw
        have hP : va_P (dC, dI) vwCl (mw ar cy st21 sl22) _ := hP
        have hG : MG [1, 2, 3, 6, 7, 13, 14, 15, 20, 21, 22] st st21 := hG.tr hG2 (by decide)
        have hFst21 : FM 6 st18 sl19 st21 sl22 := hF2
        have hF : FM 6 st sl st21 sl22 := hF.tr hFst21 (by omega) (by omega)
        clear hG2 hF2
        have hR : RN c nm st21 sl22 := hR.fr hFst21
        rcases hw with ⟨n23, n24, n25, n26, rfl, hT, hf27, hf28, hf29, hf30, hf31, hf32, hf33, hf34, hf35, hf36⟩ | ⟨n37, n38, rfl, hf39, hf40, hf41, hf42, hf43⟩
        · have hp9 := hT.2.2.2.2.2.2
          have hk1 := tkd_lt (B := B) (g := g) (m := m) (p := n23)
          have hk2 := tkx_le (B := B) (g := g) (m := m) (p := n23) hp9
          have hk3 := tka_le (B := B) (g := g) (m := m) (p := n23) hp9 hB.2.2.1
          have hk4 := tkv_lt (p := n23) hB hp9
          have hk5 := tkw_lt (B := B) (g := g) (m := m) (p := n23)
          refine lv_istore_n (lv' := [(3, .int 1), (2, .int (nI k5)), (1, .int 1), (0, .ref (ar 0))]) hx hb dX12_readSaid_104 rfl hl (by decide) rfl (fun ls hl => ?_)
          refine lv_goto (tgt := 166) hx hb dX12_readSaid_105 (by decide) ?_
          refine lv_aload_n hx hb dX12_readSaid_166 rfl (lv_at hl 3 rfl) ?_
          refine lv_dup hx hb dX12_readSaid_167 rfl ?_
          refine va_get (D := (dC, dI)) (ci := 11) (v := .int (st21 0 45)) (C := RX12) (T := TX12) (N := 47) hx hb hts ii_X12_readSaid hown hK hP 0 rfl rfl 45 (by decide) (hts _ mm_X12_readSaid_2) (fun _ hh => hh) rfl dX12_readSaid_168 ?_
          refine zz_top (v := 6) (by show st21 0 45 = _; rw [hf29]) ?_
          refine lv_iconst (v := 1) hx hb dX12_readSaid_171 (by decide) ?_
          refine lv_isub hx hb dX12_readSaid_172 ?_
          refine zz_top (v := 5) (by decide) ?_
          refine va_put (D := (dC, dI)) (ci := 11) (v := .int 5) (ty := .int) (C := RX12) (T := TX12) (N := 47) hx hb hts ii_X12_readSaid tyX12 tyX12_ok nmX12 hown hK hP (mD hN _ _ _ _) hS 0 rfl rfl 45 (by decide) (hts _ mm_X12_readSaid_2) (fun _ hh => hh) rfl (by decide +kernel) rfl rfl (Nat.le_of_ble_eq_true rfl) dX12_readSaid_173 (fun H locs hP _ hS => ?_)
          have hP : va_P (dC, dI) vwCl (mw ar cy (up2 st21 0 45 5) sl22) H := hP
          obtain ⟨st44, est44⟩ : ∃ y, y = up2 st21 0 45 5 := ⟨_, rfl⟩
          have hG : MG [1, 2, 3, 6, 7, 13, 14, 15, 20, 21, 22] st st44 := by rw [est44]; exact hG.up (rn (n := 5) (by decide : mr 0 45 = 9) (by omega)) (pn (by decide : pcl 0 45 = 11) (by decide))
          rw [← est44] at hP
          have hF : FM 6 st sl st44 sl22 := by rw [est44]; exact hF.up (by decide)
          have hT : TM B g m n23 st44 sl22 := by rw [est44]; exact hT.up (by omega)
          have hR : RN c nm st44 sl22 := by rw [est44]; exact hR.up (by omega)
          refine lv_iload_n hx hb dX12_readSaid_176 rfl (lv_at hl 0 rfl) ?_
          exact W.zret (v := 1) hx hb hr rfl (fun t ht hW => ⟨⟨1, (st44, sl22), rfl, ⟨hG, hF, Or.inl (⟨n23, n24, n25, n26, rfl, hT, by show st44 0 43 = _; rw [est44, up2_ne (r := 0) (k := 45) (a := 0) (j := 43) _ _ (by omega), hf27], by show st44 0 44 = _; rw [est44, up2_ne (r := 0) (k := 45) (a := 0) (j := 44) _ _ (by omega), hf28], by show st44 0 45 = _; rw [est44, up2_same], by show st44 0 46 = _; rw [est44, up2_ne (r := 0) (k := 45) (a := 0) (j := 46) _ _ (by omega), hf30], by omega, by omega, by omega, by omega, by omega, (sO_i (d := 2) (Or.inl ⟨hf2, hf3⟩) (by omega)).trans ((sIn_b ⟨hf2, hf3⟩).trans hf36)⟩)⟩, mB.of ht hP⟩, hS.F ht⟩) hS.2.2 dX12_readSaid_177
        · refine lv_istore_n (lv' := [(3, .int 0), (2, .int (nI k5)), (1, .int 1), (0, .ref (ar 0))]) hx hb dX12_readSaid_104 rfl hl (by decide) rfl (fun ls hl => ?_)
          refine lv_goto (tgt := 166) hx hb dX12_readSaid_105 (by decide) ?_
          refine lv_aload_n hx hb dX12_readSaid_166 rfl (lv_at hl 3 rfl) ?_
          refine lv_dup hx hb dX12_readSaid_167 rfl ?_
          refine va_get (D := (dC, dI)) (ci := 11) (v := .int (st21 0 45)) (C := RX12) (T := TX12) (N := 47) hx hb hts ii_X12_readSaid hown hK hP 0 rfl rfl 45 (by decide) (hts _ mm_X12_readSaid_2) (fun _ hh => hh) rfl dX12_readSaid_168 ?_
          refine zz_top (v := 6) (by show st21 0 45 = _; rw [hf43]) ?_
          refine lv_iconst (v := 1) hx hb dX12_readSaid_171 (by decide) ?_
          refine lv_isub hx hb dX12_readSaid_172 ?_
          refine zz_top (v := 5) (by decide) ?_
          refine va_put (D := (dC, dI)) (ci := 11) (v := .int 5) (ty := .int) (C := RX12) (T := TX12) (N := 47) hx hb hts ii_X12_readSaid tyX12 tyX12_ok nmX12 hown hK hP (mD hN _ _ _ _) hS 0 rfl rfl 45 (by decide) (hts _ mm_X12_readSaid_2) (fun _ hh => hh) rfl (by decide +kernel) rfl rfl (Nat.le_of_ble_eq_true rfl) dX12_readSaid_173 (fun H locs hP _ hS => ?_)
          have hP : va_P (dC, dI) vwCl (mw ar cy (up2 st21 0 45 5) sl22) H := hP
          obtain ⟨st45, est45⟩ : ∃ y, y = up2 st21 0 45 5 := ⟨_, rfl⟩
          have hG : MG [1, 2, 3, 6, 7, 13, 14, 15, 20, 21, 22] st st45 := by rw [est45]; exact hG.up (rn (n := 5) (by decide : mr 0 45 = 9) (by omega)) (pn (by decide : pcl 0 45 = 11) (by decide))
          rw [← est45] at hP
          have hF : FM 6 st sl st45 sl22 := by rw [est45]; exact hF.up (by decide)
          have hR : RN c nm st45 sl22 := by rw [est45]; exact hR.up (by omega)
          refine lv_iload_n hx hb dX12_readSaid_176 rfl (lv_at hl 0 rfl) ?_
          exact W.zret (v := 0) hx hb hr rfl (fun t ht hW => ⟨⟨0, (st45, sl22), rfl, ⟨hG, hF, Or.inr (⟨n37, n38, rfl, by show st45 0 10 = _; rw [est45, up2_ne (r := 0) (k := 45) (a := 0) (j := 10) _ _ (by omega), hf39], by show st45 0 11 = _; rw [est45, up2_ne (r := 0) (k := 45) (a := 0) (j := 11) _ _ (by omega), hf40], hf41, (sO_i (d := 2) (Or.inl ⟨hf2, hf3⟩) (by omega)).trans ((sIn_b ⟨hf2, hf3⟩).trans hf42), by show st45 0 45 = _; rw [est45, up2_same]⟩)⟩, mB.of ht hP⟩, hS.F ht⟩) hS.2.2 dX12_readSaid_177
    · have c1 : ¬ 23 < k5 := fun hh => c1 ((nI_ltI (a := 23) (b := k5) (by omega) (by omega)).mpr hh)
      refine lv_aload_n hx hb dX12_readSaid_16 rfl (lv_at hl 2 rfl) ?_
      refine lv_iload_n hx hb dX12_readSaid_17 rfl (lv_at hl 0 rfl) ?_
      refine va_calli (va_runV (As := [.int (nI k5)]) (rest := []) ⟨hx, hb, hml, hown, hts⟩ (f_isWordN l dC dI ar cy _ hN st sl k5 B g m p (by omega) (by omega) hG.1 (MBt.fr hB hF) hT) (cwV 1 hts gX12_readSaid_X12_isWord rfl rfl rfl (by decide +kernel) ⟨Nat.le_of_ble_eq_true rfl, Nat.le_of_ble_eq_true rfl⟩) ⟨fun a U g mk q => ⟨q.1, mPre.blind q.2⟩, va_recv hK hP (ci := 11) (q0 := 0) rfl rfl, fun U hU hW => ⟨rfl, mPre.of hP hK hU hW⟩⟩ rfl rfl hl.1 rfl (lv_room (Nat.le_of_ble_eq_true rfl)) dX12_readSaid_18 ⟨Nat.le_of_ble_eq_true rfl, Nat.le_of_ble_eq_true rfl⟩) hS (fun q _ h => MA.le hS.1 q h) (MA.le hS.1) (fun r46 x t H locs ht hvm hw hB9 _ _ hS => ?_)
      have hP := mB.at ht hB9
      clear hB9 ht hvm
      obtain ⟨rfl, hw⟩ := hw
      have hP : va_P (dC, dI) vwCl (mw ar cy st sl) _ := hP
      rcases hw with ⟨rfl, hf47⟩ | ⟨rfl, hf48⟩
      · refine lv_if_ne (tgt := 30) hx hb dX12_readSaid_21 (by decide) (fun _ => ?_) (fun cc => absurd cc (by decide))
        refine lv_iload_n hx hb dX12_readSaid_30 rfl (lv_at hl 1 rfl) ?_
        refine lv_if_ne (tgt := 46) hx hb dX12_readSaid_31 (by decide) (fun _ => ?_) (fun cc => absurd cc (by decide))
        refine lv_aload_n hx hb dX12_readSaid_46 rfl (lv_at hl 2 rfl) ?_
        refine va_get (D := (dC, dI)) (ci := 11) (v := .int (st 0 44)) (C := RX12) (T := TX12) (N := 47) hx hb hts ii_X12_readSaid hown hK hP 0 rfl rfl 44 (by decide) (hts _ mm_X12_readSaid_1) (fun _ hh => hh) rfl dX12_readSaid_47 ?_
        refine zz_top (v := (nI go)) (by show st 0 44 = _; rw [h44]) ?_
        refine lv_bipush (v := 20) hx hb dX12_readSaid_50 (by decide) ?_
        refine lv_icmp_eq (tgt := 64) hx hb dX12_readSaid_52 (by decide) (fun c8 => ?_) (fun c8 => ?_)
        · have c8 : go = 20 := (nI_eq (a := go) (b := 20) (by omega) (by omega)).mp c8
          refine lv_aload_n hx hb dX12_readSaid_64 rfl (lv_at hl 2 rfl) ?_
          refine lv_iconst (v := 4) hx hb dX12_readSaid_65 (by decide) ?_
          refine va_calli (va_runV (As := [.int 4]) (rest := []) ⟨hx, hb, hml, hown, hts⟩ (f_bad l dC dI ar cy _ hN st sl 4 B g m p (by omega) hG.1 (MBt.fr hB hF) hT) (cwV 1 hts gX12_readSaid_X12_bad rfl rfl rfl (by decide +kernel) ⟨Nat.le_of_ble_eq_true rfl, Nat.le_of_ble_eq_true rfl⟩) ⟨fun a U g mk q => ⟨q.1, mPre.blind q.2⟩, va_recv hK hP (ci := 11) (q0 := 0) rfl rfl, fun U hU hW => ⟨rfl, mPre.of hP hK hU hW⟩⟩ rfl rfl hl.1 rfl (lv_room (Nat.le_of_ble_eq_true rfl)) dX12_readSaid_66 ⟨Nat.le_of_ble_eq_true rfl, Nat.le_of_ble_eq_true rfl⟩) hS (fun q _ h => MA.le hS.1 q h) (MA.le hS.1) (fun r49 x t H locs ht hvm hw hB9 _ _ hS => ?_)
          have hP := mB.at ht hB9
          clear hB9 ht hvm
          obtain ⟨st50, sl51⟩ := x
          obtain ⟨hG2, hF2, hw⟩ := hw
          dsimp only at hG2 hF2 hw
          have hP : va_P (dC, dI) vwCl (mw ar cy st50 sl51) _ := hP
          have hG : MG [1, 2, 3, 6, 7, 13, 14, 15, 20, 21, 22] st st50 := hG.tr hG2 (by decide)
          have hFst50 : FM 2 st sl st50 sl51 := hF2
          have hF : FM 6 st sl st50 sl51 := hF.tr hFst50 (by omega) (by omega)
          clear hG2 hF2
          have hR : RN c nm st50 sl51 := hR.fr hFst50
          obtain ⟨rfl, hf52, hf53, hT⟩ := hw
          have hp9 := hT.2.2.2.2.2.2
          have hk1 := tkd_lt (B := B) (g := g) (m := m) (p := p)
          have hk2 := tkx_le (B := B) (g := g) (m := m) (p := p) hp9
          have hk3 := tka_le (B := B) (g := g) (m := m) (p := p) hp9 hB.2.2.1
          have hk4 := tkv_lt (p := p) hB hp9
          have hk5 := tkw_lt (B := B) (g := g) (m := m) (p := p)
          exact W.zret (v := 0) hx hb hr rfl (fun t ht hW => ⟨⟨0, (st50, sl51), rfl, ⟨hG, hF, Or.inr (⟨4, (tka B g m p), rfl, by show st50 0 10 = _; rw [hf52, bdk_n (by have h9 := @tkw_d B g m p; omega)], by show st50 0 11 = _; rw [hf53], by omega, sO_4 (Or.inl ⟨hf2, hf3⟩) (Or.inr (by omega)), by show st50 0 45 = _; rw [(hFst50 0 45 (by decide)).1, h45]⟩)⟩, mB.of ht hP⟩, hS.F ht⟩) hS.2.2 dX12_readSaid_69
        · have c8 : ¬ go = 20 := fun hh => c8 ((nI_eq (a := go) (b := 20) (by omega) (by omega)).mpr hh)
          refine lv_aload_n hx hb dX12_readSaid_55 rfl (lv_at hl 2 rfl) ?_
          refine va_get (D := (dC, dI)) (ci := 11) (v := .int (st 0 45)) (C := RX12) (T := TX12) (N := 47) hx hb hts ii_X12_readSaid hown hK hP 0 rfl rfl 45 (by decide) (hts _ mm_X12_readSaid_2) (fun _ hh => hh) rfl dX12_readSaid_56 ?_
          refine zz_top (v := 5) (by show st 0 45 = _; rw [h45]) ?_
          refine lv_bipush (v := 8) hx hb dX12_readSaid_59 (by decide) ?_
          refine lv_icmp_ne (tgt := 70) hx hb dX12_readSaid_61 (by decide) (fun _ => ?_) (fun cc => absurd cc (by decide))
          refine lv_aload_n hx hb dX12_readSaid_70 rfl (lv_at hl 2 rfl) ?_
          refine lv_dup hx hb dX12_readSaid_71 rfl ?_
          refine va_get (D := (dC, dI)) (ci := 11) (v := .int (st 0 44)) (C := RX12) (T := TX12) (N := 47) hx hb hts ii_X12_readSaid hown hK hP 0 rfl rfl 44 (by decide) (hts _ mm_X12_readSaid_1) (fun _ hh => hh) rfl dX12_readSaid_72 ?_
          refine zz_top (v := (nI go)) (by show st 0 44 = _; rw [h44]) ?_
          refine lv_iconst (v := 1) hx hb dX12_readSaid_75 (by decide) ?_
          refine lv_iadd hx hb dX12_readSaid_76 ?_
          refine zz_top (v := nI (go + 1)) (nI_add go 1) ?_
          refine va_put (D := (dC, dI)) (ci := 11) (v := .int (nI (go + 1))) (ty := .int) (C := RX12) (T := TX12) (N := 47) hx hb hts ii_X12_readSaid tyX12 tyX12_ok nmX12 hown hK hP (mD hN _ _ _ _) hS 0 rfl rfl 44 (by decide) (hts _ mm_X12_readSaid_1) (fun _ hh => hh) rfl (by decide +kernel) rfl rfl (Nat.le_of_ble_eq_true rfl) dX12_readSaid_77 (fun H locs hP _ hS => ?_)
          have hP : va_P (dC, dI) vwCl (mw ar cy (up2 st 0 44 (nI (go + 1))) sl) H := hP
          obtain ⟨st54, est54⟩ : ∃ y, y = up2 st 0 44 (nI (go + 1)) := ⟨_, rfl⟩
          have hG : MG [1, 2, 3, 6, 7, 13, 14, 15, 20, 21, 22] st st54 := by rw [est54]; exact hG.up (rn (n := (go + 1)) (by decide : mr 0 44 = 21) (by omega)) (pn (by decide : pcl 0 44 = 10) (by decide))
          rw [← est54] at hP
          have hF : FM 6 st sl st54 sl := by rw [est54]; exact hF.up (by decide)
          have hT : TM B g m p st54 sl := by rw [est54]; exact hT.up (by omega)
          have hR : RN c nm st54 sl := by rw [est54]; exact hR.up (by omega)
          refine lv_aload_n hx hb dX12_readSaid_80 rfl (lv_at hl 2 rfl) ?_
          refine lv_dup hx hb dX12_readSaid_81 rfl ?_
          refine va_get (D := (dC, dI)) (ci := 11) (v := .int (st54 0 45)) (C := RX12) (T := TX12) (N := 47) hx hb hts ii_X12_readSaid hown hK hP 0 rfl rfl 45 (by decide) (hts _ mm_X12_readSaid_2) (fun _ hh => hh) rfl dX12_readSaid_82 ?_
          refine zz_top (v := 5) (by show st54 0 45 = _; rw [est54, up2_ne (r := 0) (k := 44) (a := 0) (j := 45) _ _ (by omega), h45]) ?_
          refine lv_iconst (v := 1) hx hb dX12_readSaid_85 (by decide) ?_
          refine lv_iadd hx hb dX12_readSaid_86 ?_
          refine zz_top (v := 6) (by decide) ?_
          refine va_put (D := (dC, dI)) (ci := 11) (v := .int 6) (ty := .int) (C := RX12) (T := TX12) (N := 47) hx hb hts ii_X12_readSaid tyX12 tyX12_ok nmX12 hown hK hP (mD hN _ _ _ _) hS 0 rfl rfl 45 (by decide) (hts _ mm_X12_readSaid_2) (fun _ hh => hh) rfl (by decide +kernel) rfl rfl (Nat.le_of_ble_eq_true rfl) dX12_readSaid_87 (fun H locs hP _ hS => ?_)
          have hP : va_P (dC, dI) vwCl (mw ar cy (up2 st54 0 45 6) sl) H := hP
          obtain ⟨st55, est55⟩ : ∃ y, y = up2 st54 0 45 6 := ⟨_, rfl⟩
          have hG : MG [1, 2, 3, 6, 7, 13, 14, 15, 20, 21, 22] st st55 := by rw [est55]; exact hG.up (rn (n := 6) (by decide : mr 0 45 = 9) (by omega)) (pn (by decide : pcl 0 45 = 11) (by decide))
          rw [← est55] at hP
          have hF : FM 6 st sl st55 sl := by rw [est55]; exact hF.up (by decide)
          have hT : TM B g m p st55 sl := by rw [est55]; exact hT.up (by omega)
          have hR : RN c nm st55 sl := by rw [est55]; exact hR.up (by omega)
          refine lv_aload_n hx hb dX12_readSaid_90 rfl (lv_at hl 2 rfl) ?_
          refine va_callv (va_runV (As := []) (rest := []) ⟨hx, hb, hml, hown, hts⟩ (f_go l dC dI ar cy _ hN st55 sl B g m (tkx B g m p) hG.1 (MBt.fr hB hF) hT.1 hk2.2) (cwV 0 hts gX12_readSaid_X12_go rfl rfl rfl (by decide +kernel) ⟨Nat.le_of_ble_eq_true rfl, Nat.le_of_ble_eq_true rfl⟩) ⟨fun a U g mk q => ⟨q.1, mPre.blind q.2⟩, va_recv hK hP (ci := 11) (q0 := 0) rfl rfl, fun U hU hW => ⟨rfl, mPre.of hP hK hU hW⟩⟩ rfl rfl hl.1 rfl (lv_room (Nat.le_of_ble_eq_true rfl)) dX12_readSaid_91 ⟨Nat.le_of_ble_eq_true rfl, Nat.le_of_ble_eq_true rfl⟩) hS (fun q _ h => MA.le hS.1 q h) (MA.le hS.1) (fun x t H locs ht hvm hw hB9 _ _ hS => ?_)
          have hP := mB.at ht hB9
          clear hB9 ht hvm
          obtain ⟨st57, sl58⟩ := x
          obtain ⟨hG2, hF2, hw⟩ := hw
          dsimp only at hG2 hF2 hw
          have hP : va_P (dC, dI) vwCl (mw ar cy st57 sl58) _ := hP
          have hG : MG [1, 2, 3, 6, 7, 13, 14, 15, 20, 21, 22] st st57 := hG.tr hG2 (by decide)
          have hFst57 : FM 1 st55 sl st57 sl58 := hF2
          have hF : FM 6 st sl st57 sl58 := hF.tr hFst57 (by omega) (by omega)
          clear hG2 hF2
          have hR : RN c nm st57 sl58 := hR.fr hFst57
          have hT := hw
          have hp9 := hT.2.2.2.2.2.2
          have hk1 := tkd_lt (B := B) (g := g) (m := m) (p := (tkx B g m p))
          have hk2 := tkx_le (B := B) (g := g) (m := m) (p := (tkx B g m p)) hp9
          have hk3 := tka_le (B := B) (g := g) (m := m) (p := (tkx B g m p)) hp9 hB.2.2.1
          have hk4 := tkv_lt (p := (tkx B g m p)) hB hp9
          have hk5 := tkw_lt (B := B) (g := g) (m := m) (p := (tkx B g m p))
          refine lv_iconst (v := 1) hx hb dX12_readSaid_94 (by decide) ?_
          refine lv_istore_n (lv' := [(3, .int 1), (2, .int (nI k5)), (1, .int 1), (0, .ref (ar 0))]) hx hb dX12_readSaid_95 rfl hl (by decide) rfl (fun ls hl => ?_)
          refine lv_iload_n hx hb dX12_readSaid_96 rfl (lv_at hl 2 rfl) ?_
          refine lv_if_eq (tgt := 108) hx hb dX12_readSaid_97 (by decide) (fun cc => absurd cc (by decide)) (fun _ => ?_)
          refine lv_aload_n hx hb dX12_readSaid_100 rfl (lv_at hl 3 rfl) ?_
          refine va_calli (va_runV (As := []) (rest := []) ⟨hx, hb, hml, hown, hts⟩ (f_readBracket_6 l dC dI ar cy _ hN st57 sl58 B g m (tkx B g m p) c nm gn (go + 1) hG.1 (MBt.fr hB hF) hT hR (by rw [(hFst57 0 43 (by decide)).1, est55, up2_ne (r := 0) (k := 45) (a := 0) (j := 43) _ _ (by omega), est54, up2_ne (r := 0) (k := 44) (a := 0) (j := 43) _ _ (by omega), h43]) (by rw [(hFst57 0 44 (by decide)).1, est55, up2_ne (r := 0) (k := 45) (a := 0) (j := 44) _ _ (by omega), est54, up2_same]) (by rw [(hFst57 0 45 (by decide)).1, est55, up2_same]) (by omega) (by omega)) (cwV 0 hts gX12_readSaid_X12_readBracket rfl rfl rfl (by decide +kernel) ⟨Nat.le_of_ble_eq_true rfl, Nat.le_of_ble_eq_true rfl⟩) ⟨fun a U g mk q => ⟨q.1, mPre.blind q.2⟩, va_recv hK hP (ci := 11) (q0 := 0) rfl rfl, fun U hU hW => ⟨rfl, mPre.of hP hK hU hW⟩⟩ rfl rfl hl.1 rfl (lv_room (Nat.le_of_ble_eq_true rfl)) dX12_readSaid_101 ⟨Nat.le_of_ble_eq_true rfl, Nat.le_of_ble_eq_true rfl⟩) hS (fun q _ h => MA.le hS.1 q h) (MA.le hS.1) (fun r59 x t H locs ht hvm hw hB9 _ _ hS => ?_)
          have hP := mB.at ht hB9
          clear hB9 ht hvm
          obtain ⟨st60, sl61⟩ := x
          obtain ⟨hG2, hF2, hw⟩ := hw
          dsimp only at hG2 hF2 hw
          have hP : va_P (dC, dI) vwCl (mw ar cy st60 sl61) _ := hP
          have hG : MG [1, 2, 3, 6, 7, 13, 14, 15, 20, 21, 22] st st60 := hG.tr hG2 (by decide)
          have hFst60 : FM 6 st57 sl58 st60 sl61 := hF2
          have hF : FM 6 st sl st60 sl61 := hF.tr hFst60 (by omega) (by omega)
          clear hG2 hF2
          have hR : RN c nm st60 sl61 := hR.fr hFst60
          rcases hw with ⟨n62, n63, n64, n65, rfl, hT, hf66, hf67, hf68, hf69, hf70, hf71, hf72, hf73, hf74, hf75⟩ | ⟨n76, n77, rfl, hf78, hf79, hf80, hf81, hf82⟩
          · have hp9 := hT.2.2.2.2.2.2
            have hk1 := tkd_lt (B := B) (g := g) (m := m) (p := n62)
            have hk2 := tkx_le (B := B) (g := g) (m := m) (p := n62) hp9
            have hk3 := tka_le (B := B) (g := g) (m := m) (p := n62) hp9 hB.2.2.1
            have hk4 := tkv_lt (p := n62) hB hp9
            have hk5 := tkw_lt (B := B) (g := g) (m := m) (p := n62)
            refine lv_istore_n (lv' := [(3, .int 1), (2, .int (nI k5)), (1, .int 1), (0, .ref (ar 0))]) hx hb dX12_readSaid_104 rfl hl (by decide) rfl (fun ls hl => ?_)
            refine lv_goto (tgt := 166) hx hb dX12_readSaid_105 (by decide) ?_
            refine lv_aload_n hx hb dX12_readSaid_166 rfl (lv_at hl 3 rfl) ?_
            refine lv_dup hx hb dX12_readSaid_167 rfl ?_
            refine va_get (D := (dC, dI)) (ci := 11) (v := .int (st60 0 45)) (C := RX12) (T := TX12) (N := 47) hx hb hts ii_X12_readSaid hown hK hP 0 rfl rfl 45 (by decide) (hts _ mm_X12_readSaid_2) (fun _ hh => hh) rfl dX12_readSaid_168 ?_
            refine zz_top (v := 6) (by show st60 0 45 = _; rw [hf68]) ?_
            refine lv_iconst (v := 1) hx hb dX12_readSaid_171 (by decide) ?_
            refine lv_isub hx hb dX12_readSaid_172 ?_
            refine zz_top (v := 5) (by decide) ?_
            refine va_put (D := (dC, dI)) (ci := 11) (v := .int 5) (ty := .int) (C := RX12) (T := TX12) (N := 47) hx hb hts ii_X12_readSaid tyX12 tyX12_ok nmX12 hown hK hP (mD hN _ _ _ _) hS 0 rfl rfl 45 (by decide) (hts _ mm_X12_readSaid_2) (fun _ hh => hh) rfl (by decide +kernel) rfl rfl (Nat.le_of_ble_eq_true rfl) dX12_readSaid_173 (fun H locs hP _ hS => ?_)
            have hP : va_P (dC, dI) vwCl (mw ar cy (up2 st60 0 45 5) sl61) H := hP
            obtain ⟨st83, est83⟩ : ∃ y, y = up2 st60 0 45 5 := ⟨_, rfl⟩
            have hG : MG [1, 2, 3, 6, 7, 13, 14, 15, 20, 21, 22] st st83 := by rw [est83]; exact hG.up (rn (n := 5) (by decide : mr 0 45 = 9) (by omega)) (pn (by decide : pcl 0 45 = 11) (by decide))
            rw [← est83] at hP
            have hF : FM 6 st sl st83 sl61 := by rw [est83]; exact hF.up (by decide)
            have hT : TM B g m n62 st83 sl61 := by rw [est83]; exact hT.up (by omega)
            have hR : RN c nm st83 sl61 := by rw [est83]; exact hR.up (by omega)
            refine lv_iload_n hx hb dX12_readSaid_176 rfl (lv_at hl 0 rfl) ?_
            exact W.zret (v := 1) hx hb hr rfl (fun t ht hW => ⟨⟨1, (st83, sl61), rfl, ⟨hG, hF, Or.inl (⟨n62, n63, n64, n65, rfl, hT, by show st83 0 43 = _; rw [est83, up2_ne (r := 0) (k := 45) (a := 0) (j := 43) _ _ (by omega), hf66], by show st83 0 44 = _; rw [est83, up2_ne (r := 0) (k := 45) (a := 0) (j := 44) _ _ (by omega), hf67], by show st83 0 45 = _; rw [est83, up2_same], by show st83 0 46 = _; rw [est83, up2_ne (r := 0) (k := 45) (a := 0) (j := 46) _ _ (by omega), hf69], by omega, by omega, by omega, by omega, by omega, (sO_i (d := 2) (Or.inl ⟨hf2, hf3⟩) (by omega)).trans ((sIn_b ⟨hf2, hf3⟩).trans hf75)⟩)⟩, mB.of ht hP⟩, hS.F ht⟩) hS.2.2 dX12_readSaid_177
          · refine lv_istore_n (lv' := [(3, .int 0), (2, .int (nI k5)), (1, .int 1), (0, .ref (ar 0))]) hx hb dX12_readSaid_104 rfl hl (by decide) rfl (fun ls hl => ?_)
            refine lv_goto (tgt := 166) hx hb dX12_readSaid_105 (by decide) ?_
            refine lv_aload_n hx hb dX12_readSaid_166 rfl (lv_at hl 3 rfl) ?_
            refine lv_dup hx hb dX12_readSaid_167 rfl ?_
            refine va_get (D := (dC, dI)) (ci := 11) (v := .int (st60 0 45)) (C := RX12) (T := TX12) (N := 47) hx hb hts ii_X12_readSaid hown hK hP 0 rfl rfl 45 (by decide) (hts _ mm_X12_readSaid_2) (fun _ hh => hh) rfl dX12_readSaid_168 ?_
            refine zz_top (v := 6) (by show st60 0 45 = _; rw [hf82]) ?_
            refine lv_iconst (v := 1) hx hb dX12_readSaid_171 (by decide) ?_
            refine lv_isub hx hb dX12_readSaid_172 ?_
            refine zz_top (v := 5) (by decide) ?_
            refine va_put (D := (dC, dI)) (ci := 11) (v := .int 5) (ty := .int) (C := RX12) (T := TX12) (N := 47) hx hb hts ii_X12_readSaid tyX12 tyX12_ok nmX12 hown hK hP (mD hN _ _ _ _) hS 0 rfl rfl 45 (by decide) (hts _ mm_X12_readSaid_2) (fun _ hh => hh) rfl (by decide +kernel) rfl rfl (Nat.le_of_ble_eq_true rfl) dX12_readSaid_173 (fun H locs hP _ hS => ?_)
            have hP : va_P (dC, dI) vwCl (mw ar cy (up2 st60 0 45 5) sl61) H := hP
            obtain ⟨st84, est84⟩ : ∃ y, y = up2 st60 0 45 5 := ⟨_, rfl⟩
            have hG : MG [1, 2, 3, 6, 7, 13, 14, 15, 20, 21, 22] st st84 := by rw [est84]; exact hG.up (rn (n := 5) (by decide : mr 0 45 = 9) (by omega)) (pn (by decide : pcl 0 45 = 11) (by decide))
            rw [← est84] at hP
            have hF : FM 6 st sl st84 sl61 := by rw [est84]; exact hF.up (by decide)
            have hR : RN c nm st84 sl61 := by rw [est84]; exact hR.up (by omega)
            refine lv_iload_n hx hb dX12_readSaid_176 rfl (lv_at hl 0 rfl) ?_
            exact W.zret (v := 0) hx hb hr rfl (fun t ht hW => ⟨⟨0, (st84, sl61), rfl, ⟨hG, hF, Or.inr (⟨n76, n77, rfl, by show st84 0 10 = _; rw [est84, up2_ne (r := 0) (k := 45) (a := 0) (j := 10) _ _ (by omega), hf78], by show st84 0 11 = _; rw [est84, up2_ne (r := 0) (k := 45) (a := 0) (j := 11) _ _ (by omega), hf79], hf80, (sO_i (d := 2) (Or.inl ⟨hf2, hf3⟩) (by omega)).trans ((sIn_b ⟨hf2, hf3⟩).trans hf81), by show st84 0 45 = _; rw [est84, up2_same]⟩)⟩, mB.of ht hP⟩, hS.F ht⟩) hS.2.2 dX12_readSaid_177
      · refine lv_if_ne (tgt := 30) hx hb dX12_readSaid_21 (by decide) (fun cc => absurd (by decide) cc) (fun _ => ?_)
        refine lv_iinc (v := (nI (k5 + 1))) (lv' := [(2, .int (nI (k5 + 1))), (1, .int 1), (0, .ref (ar 0))]) hx hb dX12_readSaid_24 hl (k := 0) rfl (nI_add k5 1) (by decide) rfl (fun ls hl => ?_)
        refine lv_goto (tgt := 10) hx hb dX12_readSaid_27 (by decide) ?_
        exact ih9 (25 - (k5 + 1)) _ _ _ _ (by omega) ⟨(k5 + 1), rfl, by omega, by omega, fun i h1 h2 hz => if h9 : i = k5 then (by omega) else hv8_0 i h1 (by omega) hz, hP, hS, lv_sub hl [0, 1, 2] rfl, rfl⟩
  · refine lv_istore_n (lv' := [(1, .int 0), (0, .ref (ar 0))]) hx hb dX12_readSaid_6 rfl hl (by decide) rfl (fun ls hl => ?_)
    refine lv_bipush (v := 15) hx hb dX12_readSaid_7 (by decide) ?_
    refine lv_istore_n (lv' := [(2, .int 15), (1, .int 0), (0, .ref (ar 0))]) hx hb dX12_readSaid_9 rfl hl (by decide) rfl (fun ls hl => ?_)
    refine zz_wf (fun n stk H locs ls => ∃ k85 : Nat, n = 25 - k85 ∧ 15 ≤ k85 ∧ k85 < 25 ∧ (∀ i, 15 ≤ i → i < k85 → ¬ tkw B g m p = i) ∧ va_P (dC, dI) vwCl (mw ar cy st sl) H ∧ va_S (MA ar s.heap.size) s.heap H locs ∧ lv_has ls 4 [(2, .int (nI k85)), (1, .int 0), (0, .ref (ar 0))] ∧ stk = []) ?_ (25 - 15) _ _ _ _ ⟨15, rfl, by omega, by omega, fun i h1 h2 => absurd h1 (by omega), hP, hS, lv_sub hl [0, 1, 2] rfl, rfl⟩
    rintro nn stk H locs ls ⟨k85, hm88, hv86_0, hv87_1, hv88_0, hP, hS, hl, rfl⟩ ih89
    refine lv_iload_n hx hb dX12_readSaid_10 rfl (lv_at hl 0 rfl) ?_
    refine lv_bipush (v := 23) hx hb dX12_readSaid_11 (by decide) ?_
    refine lv_icmp_gt (tgt := 30) hx hb dX12_readSaid_13 (by decide) (fun c12 => ?_) (fun c12 => ?_)
    · have c12 : 23 < k85 := (nI_ltI (a := 23) (b := k85) (by omega) (by omega)).mp c12
      refine lv_iload_n hx hb dX12_readSaid_30 rfl (lv_at hl 1 rfl) ?_
      refine lv_if_ne (tgt := 46) hx hb dX12_readSaid_31 (by decide) (fun cc => absurd (by decide) cc) (fun _ => ?_)
      refine lv_iload_n hx hb dX12_readSaid_34 rfl (lv_at hl 0 rfl) ?_
      refine lv_bipush (v := 23) hx hb dX12_readSaid_35 (by decide) ?_
      refine lv_icmp_le (tgt := 46) hx hb dX12_readSaid_37 (by decide) (fun cc => absurd ((nI_leI (a := k85) (b := 23) (by omega) (by omega)).mp cc) (by omega)) (fun _ => ?_)
      refine lv_aload_n hx hb dX12_readSaid_40 rfl (lv_at hl 2 rfl) ?_
      refine lv_iconst (v := 1) hx hb dX12_readSaid_41 (by decide) ?_
      refine va_calli (va_runV (As := [.int 1]) (rest := []) ⟨hx, hb, hml, hown, hts⟩ (f_bad l dC dI ar cy _ hN st sl 1 B g m p (by omega) hG.1 (MBt.fr hB hF) hT) (cwV 1 hts gX12_readSaid_X12_bad rfl rfl rfl (by decide +kernel) ⟨Nat.le_of_ble_eq_true rfl, Nat.le_of_ble_eq_true rfl⟩) ⟨fun a U g mk q => ⟨q.1, mPre.blind q.2⟩, va_recv hK hP (ci := 11) (q0 := 0) rfl rfl, fun U hU hW => ⟨rfl, mPre.of hP hK hU hW⟩⟩ rfl rfl hl.1 rfl (lv_room (Nat.le_of_ble_eq_true rfl)) dX12_readSaid_42 ⟨Nat.le_of_ble_eq_true rfl, Nat.le_of_ble_eq_true rfl⟩) hS (fun q _ h => MA.le hS.1 q h) (MA.le hS.1) (fun r90 x t H locs ht hvm hw hB9 _ _ hS => ?_)
      have hP := mB.at ht hB9
      clear hB9 ht hvm
      obtain ⟨st91, sl92⟩ := x
      obtain ⟨hG2, hF2, hw⟩ := hw
      dsimp only at hG2 hF2 hw
      have hP : va_P (dC, dI) vwCl (mw ar cy st91 sl92) _ := hP
      have hG : MG [1, 2, 3, 6, 7, 13, 14, 15, 20, 21, 22] st st91 := hG.tr hG2 (by decide)
      have hFst91 : FM 2 st sl st91 sl92 := hF2
      have hF : FM 6 st sl st91 sl92 := hF.tr hFst91 (by omega) (by omega)
      clear hG2 hF2
      have hR : RN c nm st91 sl92 := hR.fr hFst91
      obtain ⟨rfl, hf93, hf94, hT⟩ := hw
      have hp9 := hT.2.2.2.2.2.2
      have hk1 := tkd_lt (B := B) (g := g) (m := m) (p := p)
      have hk2 := tkx_le (B := B) (g := g) (m := m) (p := p) hp9
      have hk3 := tka_le (B := B) (g := g) (m := m) (p := p) hp9 hB.2.2.1
      have hk4 := tkv_lt (p := p) hB hp9
      have hk5 := tkw_lt (B := B) (g := g) (m := m) (p := p)
      exact W.zret (v := 0) hx hb hr rfl (fun t ht hW => ⟨⟨0, (st91, sl92), rfl, ⟨hG, hF, Or.inr (⟨1, (tka B g m p), rfl, by show st91 0 10 = _; rw [hf93, bdk_1], by show st91 0 11 = _; rw [hf94], by omega, sO_1 (fun z9 => z9.elim hf4 (fun z8 => hv88_0 _ z8.1 (by omega) rfl)), by show st91 0 45 = _; rw [(hFst91 0 45 (by decide)).1, h45]⟩)⟩, mB.of ht hP⟩, hS.F ht⟩) hS.2.2 dX12_readSaid_45
    · have c12 : ¬ 23 < k85 := fun hh => c12 ((nI_ltI (a := 23) (b := k85) (by omega) (by omega)).mpr hh)
      refine lv_aload_n hx hb dX12_readSaid_16 rfl (lv_at hl 2 rfl) ?_
      refine lv_iload_n hx hb dX12_readSaid_17 rfl (lv_at hl 0 rfl) ?_
      refine va_calli (va_runV (As := [.int (nI k85)]) (rest := []) ⟨hx, hb, hml, hown, hts⟩ (f_isWordN l dC dI ar cy _ hN st sl k85 B g m p (by omega) (by omega) hG.1 (MBt.fr hB hF) hT) (cwV 1 hts gX12_readSaid_X12_isWord rfl rfl rfl (by decide +kernel) ⟨Nat.le_of_ble_eq_true rfl, Nat.le_of_ble_eq_true rfl⟩) ⟨fun a U g mk q => ⟨q.1, mPre.blind q.2⟩, va_recv hK hP (ci := 11) (q0 := 0) rfl rfl, fun U hU hW => ⟨rfl, mPre.of hP hK hU hW⟩⟩ rfl rfl hl.1 rfl (lv_room (Nat.le_of_ble_eq_true rfl)) dX12_readSaid_18 ⟨Nat.le_of_ble_eq_true rfl, Nat.le_of_ble_eq_true rfl⟩) hS (fun q _ h => MA.le hS.1 q h) (MA.le hS.1) (fun r95 x t H locs ht hvm hw hB9 _ _ hS => ?_)
      have hP := mB.at ht hB9
      clear hB9 ht hvm
      obtain ⟨rfl, hw⟩ := hw
      have hP : va_P (dC, dI) vwCl (mw ar cy st sl) _ := hP
      rcases hw with ⟨rfl, hf96⟩ | ⟨rfl, hf97⟩
      · refine lv_if_ne (tgt := 30) hx hb dX12_readSaid_21 (by decide) (fun _ => ?_) (fun cc => absurd cc (by decide))
        refine lv_iload_n hx hb dX12_readSaid_30 rfl (lv_at hl 1 rfl) ?_
        refine lv_if_ne (tgt := 46) hx hb dX12_readSaid_31 (by decide) (fun cc => absurd (by decide) cc) (fun _ => ?_)
        refine lv_iload_n hx hb dX12_readSaid_34 rfl (lv_at hl 0 rfl) ?_
        refine lv_bipush (v := 23) hx hb dX12_readSaid_35 (by decide) ?_
        refine lv_icmp_le (tgt := 46) hx hb dX12_readSaid_37 (by decide) (fun _ => ?_) (fun cc => absurd ((nI_leI (a := k85) (b := 23) (by omega) (by omega)).mpr (by omega)) cc)
        refine lv_aload_n hx hb dX12_readSaid_46 rfl (lv_at hl 2 rfl) ?_
        refine va_get (D := (dC, dI)) (ci := 11) (v := .int (st 0 44)) (C := RX12) (T := TX12) (N := 47) hx hb hts ii_X12_readSaid hown hK hP 0 rfl rfl 44 (by decide) (hts _ mm_X12_readSaid_1) (fun _ hh => hh) rfl dX12_readSaid_47 ?_
        refine zz_top (v := (nI go)) (by show st 0 44 = _; rw [h44]) ?_
        refine lv_bipush (v := 20) hx hb dX12_readSaid_50 (by decide) ?_
        refine lv_icmp_eq (tgt := 64) hx hb dX12_readSaid_52 (by decide) (fun c18 => ?_) (fun c18 => ?_)
        · have c18 : go = 20 := (nI_eq (a := go) (b := 20) (by omega) (by omega)).mp c18
          refine lv_aload_n hx hb dX12_readSaid_64 rfl (lv_at hl 2 rfl) ?_
          refine lv_iconst (v := 4) hx hb dX12_readSaid_65 (by decide) ?_
          refine va_calli (va_runV (As := [.int 4]) (rest := []) ⟨hx, hb, hml, hown, hts⟩ (f_bad l dC dI ar cy _ hN st sl 4 B g m p (by omega) hG.1 (MBt.fr hB hF) hT) (cwV 1 hts gX12_readSaid_X12_bad rfl rfl rfl (by decide +kernel) ⟨Nat.le_of_ble_eq_true rfl, Nat.le_of_ble_eq_true rfl⟩) ⟨fun a U g mk q => ⟨q.1, mPre.blind q.2⟩, va_recv hK hP (ci := 11) (q0 := 0) rfl rfl, fun U hU hW => ⟨rfl, mPre.of hP hK hU hW⟩⟩ rfl rfl hl.1 rfl (lv_room (Nat.le_of_ble_eq_true rfl)) dX12_readSaid_66 ⟨Nat.le_of_ble_eq_true rfl, Nat.le_of_ble_eq_true rfl⟩) hS (fun q _ h => MA.le hS.1 q h) (MA.le hS.1) (fun r98 x t H locs ht hvm hw hB9 _ _ hS => ?_)
          have hP := mB.at ht hB9
          clear hB9 ht hvm
          obtain ⟨st99, sl100⟩ := x
          obtain ⟨hG2, hF2, hw⟩ := hw
          dsimp only at hG2 hF2 hw
          have hP : va_P (dC, dI) vwCl (mw ar cy st99 sl100) _ := hP
          have hG : MG [1, 2, 3, 6, 7, 13, 14, 15, 20, 21, 22] st st99 := hG.tr hG2 (by decide)
          have hFst99 : FM 2 st sl st99 sl100 := hF2
          have hF : FM 6 st sl st99 sl100 := hF.tr hFst99 (by omega) (by omega)
          clear hG2 hF2
          have hR : RN c nm st99 sl100 := hR.fr hFst99
          obtain ⟨rfl, hf101, hf102, hT⟩ := hw
          have hp9 := hT.2.2.2.2.2.2
          have hk1 := tkd_lt (B := B) (g := g) (m := m) (p := p)
          have hk2 := tkx_le (B := B) (g := g) (m := m) (p := p) hp9
          have hk3 := tka_le (B := B) (g := g) (m := m) (p := p) hp9 hB.2.2.1
          have hk4 := tkv_lt (p := p) hB hp9
          have hk5 := tkw_lt (B := B) (g := g) (m := m) (p := p)
          exact W.zret (v := 0) hx hb hr rfl (fun t ht hW => ⟨⟨0, (st99, sl100), rfl, ⟨hG, hF, Or.inr (⟨4, (tka B g m p), rfl, by show st99 0 10 = _; rw [hf101, bdk_n (by have h9 := @tkw_d B g m p; omega)], by show st99 0 11 = _; rw [hf102], by omega, sO_4 (Or.inr ⟨by omega, by omega⟩) (Or.inr (by omega)), by show st99 0 45 = _; rw [(hFst99 0 45 (by decide)).1, h45]⟩)⟩, mB.of ht hP⟩, hS.F ht⟩) hS.2.2 dX12_readSaid_69
        · have c18 : ¬ go = 20 := fun hh => c18 ((nI_eq (a := go) (b := 20) (by omega) (by omega)).mpr hh)
          refine lv_aload_n hx hb dX12_readSaid_55 rfl (lv_at hl 2 rfl) ?_
          refine va_get (D := (dC, dI)) (ci := 11) (v := .int (st 0 45)) (C := RX12) (T := TX12) (N := 47) hx hb hts ii_X12_readSaid hown hK hP 0 rfl rfl 45 (by decide) (hts _ mm_X12_readSaid_2) (fun _ hh => hh) rfl dX12_readSaid_56 ?_
          refine zz_top (v := 5) (by show st 0 45 = _; rw [h45]) ?_
          refine lv_bipush (v := 8) hx hb dX12_readSaid_59 (by decide) ?_
          refine lv_icmp_ne (tgt := 70) hx hb dX12_readSaid_61 (by decide) (fun _ => ?_) (fun cc => absurd cc (by decide))
          refine lv_aload_n hx hb dX12_readSaid_70 rfl (lv_at hl 2 rfl) ?_
          refine lv_dup hx hb dX12_readSaid_71 rfl ?_
          refine va_get (D := (dC, dI)) (ci := 11) (v := .int (st 0 44)) (C := RX12) (T := TX12) (N := 47) hx hb hts ii_X12_readSaid hown hK hP 0 rfl rfl 44 (by decide) (hts _ mm_X12_readSaid_1) (fun _ hh => hh) rfl dX12_readSaid_72 ?_
          refine zz_top (v := (nI go)) (by show st 0 44 = _; rw [h44]) ?_
          refine lv_iconst (v := 1) hx hb dX12_readSaid_75 (by decide) ?_
          refine lv_iadd hx hb dX12_readSaid_76 ?_
          refine zz_top (v := nI (go + 1)) (nI_add go 1) ?_
          refine va_put (D := (dC, dI)) (ci := 11) (v := .int (nI (go + 1))) (ty := .int) (C := RX12) (T := TX12) (N := 47) hx hb hts ii_X12_readSaid tyX12 tyX12_ok nmX12 hown hK hP (mD hN _ _ _ _) hS 0 rfl rfl 44 (by decide) (hts _ mm_X12_readSaid_1) (fun _ hh => hh) rfl (by decide +kernel) rfl rfl (Nat.le_of_ble_eq_true rfl) dX12_readSaid_77 (fun H locs hP _ hS => ?_)
          have hP : va_P (dC, dI) vwCl (mw ar cy (up2 st 0 44 (nI (go + 1))) sl) H := hP
          obtain ⟨st103, est103⟩ : ∃ y, y = up2 st 0 44 (nI (go + 1)) := ⟨_, rfl⟩
          have hG : MG [1, 2, 3, 6, 7, 13, 14, 15, 20, 21, 22] st st103 := by rw [est103]; exact hG.up (rn (n := (go + 1)) (by decide : mr 0 44 = 21) (by omega)) (pn (by decide : pcl 0 44 = 10) (by decide))
          rw [← est103] at hP
          have hF : FM 6 st sl st103 sl := by rw [est103]; exact hF.up (by decide)
          have hT : TM B g m p st103 sl := by rw [est103]; exact hT.up (by omega)
          have hR : RN c nm st103 sl := by rw [est103]; exact hR.up (by omega)
          refine lv_aload_n hx hb dX12_readSaid_80 rfl (lv_at hl 2 rfl) ?_
          refine lv_dup hx hb dX12_readSaid_81 rfl ?_
          refine va_get (D := (dC, dI)) (ci := 11) (v := .int (st103 0 45)) (C := RX12) (T := TX12) (N := 47) hx hb hts ii_X12_readSaid hown hK hP 0 rfl rfl 45 (by decide) (hts _ mm_X12_readSaid_2) (fun _ hh => hh) rfl dX12_readSaid_82 ?_
          refine zz_top (v := 5) (by show st103 0 45 = _; rw [est103, up2_ne (r := 0) (k := 44) (a := 0) (j := 45) _ _ (by omega), h45]) ?_
          refine lv_iconst (v := 1) hx hb dX12_readSaid_85 (by decide) ?_
          refine lv_iadd hx hb dX12_readSaid_86 ?_
          refine zz_top (v := 6) (by decide) ?_
          refine va_put (D := (dC, dI)) (ci := 11) (v := .int 6) (ty := .int) (C := RX12) (T := TX12) (N := 47) hx hb hts ii_X12_readSaid tyX12 tyX12_ok nmX12 hown hK hP (mD hN _ _ _ _) hS 0 rfl rfl 45 (by decide) (hts _ mm_X12_readSaid_2) (fun _ hh => hh) rfl (by decide +kernel) rfl rfl (Nat.le_of_ble_eq_true rfl) dX12_readSaid_87 (fun H locs hP _ hS => ?_)
          have hP : va_P (dC, dI) vwCl (mw ar cy (up2 st103 0 45 6) sl) H := hP
          obtain ⟨st104, est104⟩ : ∃ y, y = up2 st103 0 45 6 := ⟨_, rfl⟩
          have hG : MG [1, 2, 3, 6, 7, 13, 14, 15, 20, 21, 22] st st104 := by rw [est104]; exact hG.up (rn (n := 6) (by decide : mr 0 45 = 9) (by omega)) (pn (by decide : pcl 0 45 = 11) (by decide))
          rw [← est104] at hP
          have hF : FM 6 st sl st104 sl := by rw [est104]; exact hF.up (by decide)
          have hT : TM B g m p st104 sl := by rw [est104]; exact hT.up (by omega)
          have hR : RN c nm st104 sl := by rw [est104]; exact hR.up (by omega)
          refine lv_aload_n hx hb dX12_readSaid_90 rfl (lv_at hl 2 rfl) ?_
          refine va_callv (va_runV (As := []) (rest := []) ⟨hx, hb, hml, hown, hts⟩ (f_go l dC dI ar cy _ hN st104 sl B g m (tkx B g m p) hG.1 (MBt.fr hB hF) hT.1 hk2.2) (cwV 0 hts gX12_readSaid_X12_go rfl rfl rfl (by decide +kernel) ⟨Nat.le_of_ble_eq_true rfl, Nat.le_of_ble_eq_true rfl⟩) ⟨fun a U g mk q => ⟨q.1, mPre.blind q.2⟩, va_recv hK hP (ci := 11) (q0 := 0) rfl rfl, fun U hU hW => ⟨rfl, mPre.of hP hK hU hW⟩⟩ rfl rfl hl.1 rfl (lv_room (Nat.le_of_ble_eq_true rfl)) dX12_readSaid_91 ⟨Nat.le_of_ble_eq_true rfl, Nat.le_of_ble_eq_true rfl⟩) hS (fun q _ h => MA.le hS.1 q h) (MA.le hS.1) (fun x t H locs ht hvm hw hB9 _ _ hS => ?_)
          have hP := mB.at ht hB9
          clear hB9 ht hvm
          obtain ⟨st106, sl107⟩ := x
          obtain ⟨hG2, hF2, hw⟩ := hw
          dsimp only at hG2 hF2 hw
          have hP : va_P (dC, dI) vwCl (mw ar cy st106 sl107) _ := hP
          have hG : MG [1, 2, 3, 6, 7, 13, 14, 15, 20, 21, 22] st st106 := hG.tr hG2 (by decide)
          have hFst106 : FM 1 st104 sl st106 sl107 := hF2
          have hF : FM 6 st sl st106 sl107 := hF.tr hFst106 (by omega) (by omega)
          clear hG2 hF2
          have hR : RN c nm st106 sl107 := hR.fr hFst106
          have hT := hw
          have hp9 := hT.2.2.2.2.2.2
          have hk1 := tkd_lt (B := B) (g := g) (m := m) (p := (tkx B g m p))
          have hk2 := tkx_le (B := B) (g := g) (m := m) (p := (tkx B g m p)) hp9
          have hk3 := tka_le (B := B) (g := g) (m := m) (p := (tkx B g m p)) hp9 hB.2.2.1
          have hk4 := tkv_lt (p := (tkx B g m p)) hB hp9
          have hk5 := tkw_lt (B := B) (g := g) (m := m) (p := (tkx B g m p))
          refine lv_iconst (v := 1) hx hb dX12_readSaid_94 (by decide) ?_
          refine lv_istore_n (lv' := [(3, .int 1), (2, .int (nI k85)), (1, .int 0), (0, .ref (ar 0))]) hx hb dX12_readSaid_95 rfl hl (by decide) rfl (fun ls hl => ?_)
          refine lv_iload_n hx hb dX12_readSaid_96 rfl (lv_at hl 2 rfl) ?_
          refine lv_if_eq (tgt := 108) hx hb dX12_readSaid_97 (by decide) (fun _ => ?_) (fun cc => absurd (by decide) cc)
          refine lv_iload_n hx hb dX12_readSaid_108 rfl (lv_at hl 1 rfl) ?_
          refine lv_bipush (v := 15) hx hb dX12_readSaid_109 (by decide) ?_
          refine lv_icmp_ne (tgt := 122) hx hb dX12_readSaid_111 (by decide) (fun c21 => ?_) (fun c21 => ?_)
          · have c21 : ¬ k85 = 15 := fun hh => c21 ((nI_eq (a := k85) (b := 15) (by omega) (by omega)).mpr hh)
            refine lv_iload_n hx hb dX12_readSaid_122 rfl (lv_at hl 1 rfl) ?_
            refine lv_bipush (v := 18) hx hb dX12_readSaid_123 (by decide) ?_
            refine lv_icmp_ge (tgt := 146) hx hb dX12_readSaid_125 (by decide) (fun c22 => ?_) (fun c22 => ?_)
            · have c22 : 18 ≤ k85 := (nI_leI (a := 18) (b := k85) (by omega) (by omega)).mp c22
              refine lv_iload_n hx hb dX12_readSaid_146 rfl (lv_at hl 1 rfl) ?_
              refine lv_bipush (v := 20) hx hb dX12_readSaid_147 (by decide) ?_
              refine lv_icmp_ge (tgt := 160) hx hb dX12_readSaid_149 (by decide) (fun c23 => ?_) (fun c23 => ?_)
              · have c23 : 20 ≤ k85 := (nI_leI (a := 20) (b := k85) (by omega) (by omega)).mp c23
                refine lv_aload_n hx hb dX12_readSaid_160 rfl (lv_at hl 3 rfl) ?_
                refine lv_iload_n hx hb dX12_readSaid_161 rfl (lv_at hl 1 rfl) ?_
                refine va_calli (va_runV (As := [.int (nI k85)]) (rest := []) ⟨hx, hb, hml, hown, hts⟩ (f_readCompare l dC dI ar cy _ hN st106 sl107 k85 B g m (tkx B g m p) c nm gn (by omega) (by omega) hG.1 (MBt.fr hB hF) hT hR (by rw [(hFst106 0 43 (by decide)).1, est104, up2_ne (r := 0) (k := 45) (a := 0) (j := 43) _ _ (by omega), est103, up2_ne (r := 0) (k := 44) (a := 0) (j := 43) _ _ (by omega), h43]) (by omega)) (cwV 1 hts gX12_readSaid_X12_readCompare rfl rfl rfl (by decide +kernel) ⟨Nat.le_of_ble_eq_true rfl, Nat.le_of_ble_eq_true rfl⟩) ⟨fun a U g mk q => ⟨q.1, mPre.blind q.2⟩, va_recv hK hP (ci := 11) (q0 := 0) rfl rfl, fun U hU hW => ⟨rfl, mPre.of hP hK hU hW⟩⟩ rfl rfl hl.1 rfl (lv_room (Nat.le_of_ble_eq_true rfl)) dX12_readSaid_162 ⟨Nat.le_of_ble_eq_true rfl, Nat.le_of_ble_eq_true rfl⟩) hS (fun q _ h => MA.le hS.1 q h) (MA.le hS.1) (fun r108 x t H locs ht hvm hw hB9 _ _ hS => ?_)
                have hP := mB.at ht hB9
                clear hB9 ht hvm
                obtain ⟨st109, sl110⟩ := x
                obtain ⟨hG2, hF2, hw⟩ := hw
                dsimp only at hG2 hF2 hw
                have hP : va_P (dC, dI) vwCl (mw ar cy st109 sl110) _ := hP
                have hG : MG [1, 2, 3, 6, 7, 13, 14, 15, 20, 21, 22] st st109 := hG.tr hG2 (by decide)
                have hFst109 : FM 5 st106 sl107 st109 sl110 := hF2
                have hF : FM 6 st sl st109 sl110 := hF.tr hFst109 (by omega) (by omega)
                clear hG2 hF2
                have hR : RN c nm st109 sl110 := hR.fr hFst109
                rcases hw with ⟨rfl, hT, hf111, hf112, hf113⟩ | ⟨n114, n115, rfl, hf116, hf117, hf118, hf119⟩
                · have hp9 := hT.2.2.2.2.2.2
                  have hk1 := tkd_lt (B := B) (g := g) (m := m) (p := (tkx B g m (tkx B g m (tkx B g m p))))
                  have hk2 := tkx_le (B := B) (g := g) (m := m) (p := (tkx B g m (tkx B g m (tkx B g m p)))) hp9
                  have hk3 := tka_le (B := B) (g := g) (m := m) (p := (tkx B g m (tkx B g m (tkx B g m p)))) hp9 hB.2.2.1
                  have hk4 := tkv_lt (p := (tkx B g m (tkx B g m (tkx B g m p)))) hB hp9
                  have hk5 := tkw_lt (B := B) (g := g) (m := m) (p := (tkx B g m (tkx B g m (tkx B g m p))))
                  refine lv_istore_n (lv' := [(3, .int 1), (2, .int (nI k85)), (1, .int 0), (0, .ref (ar 0))]) hx hb dX12_readSaid_165 rfl hl (by decide) rfl (fun ls hl => ?_)
                  refine lv_aload_n hx hb dX12_readSaid_166 rfl (lv_at hl 3 rfl) ?_
                  refine lv_dup hx hb dX12_readSaid_167 rfl ?_
                  refine va_get (D := (dC, dI)) (ci := 11) (v := .int (st109 0 45)) (C := RX12) (T := TX12) (N := 47) hx hb hts ii_X12_readSaid hown hK hP 0 rfl rfl 45 (by decide) (hts _ mm_X12_readSaid_2) (fun _ hh => hh) rfl dX12_readSaid_168 ?_
                  refine zz_top (v := 6) (by show st109 0 45 = _; rw [(hFst109 0 45 (by decide)).1, (hFst106 0 45 (by decide)).1, est104, up2_same]) ?_
                  refine lv_iconst (v := 1) hx hb dX12_readSaid_171 (by decide) ?_
                  refine lv_isub hx hb dX12_readSaid_172 ?_
                  refine zz_top (v := 5) (by decide) ?_
                  refine va_put (D := (dC, dI)) (ci := 11) (v := .int 5) (ty := .int) (C := RX12) (T := TX12) (N := 47) hx hb hts ii_X12_readSaid tyX12 tyX12_ok nmX12 hown hK hP (mD hN _ _ _ _) hS 0 rfl rfl 45 (by decide) (hts _ mm_X12_readSaid_2) (fun _ hh => hh) rfl (by decide +kernel) rfl rfl (Nat.le_of_ble_eq_true rfl) dX12_readSaid_173 (fun H locs hP _ hS => ?_)
                  have hP : va_P (dC, dI) vwCl (mw ar cy (up2 st109 0 45 5) sl110) H := hP
                  obtain ⟨st120, est120⟩ : ∃ y, y = up2 st109 0 45 5 := ⟨_, rfl⟩
                  have hG : MG [1, 2, 3, 6, 7, 13, 14, 15, 20, 21, 22] st st120 := by rw [est120]; exact hG.up (rn (n := 5) (by decide : mr 0 45 = 9) (by omega)) (pn (by decide : pcl 0 45 = 11) (by decide))
                  rw [← est120] at hP
                  have hF : FM 6 st sl st120 sl110 := by rw [est120]; exact hF.up (by decide)
                  have hT : TM B g m (tkx B g m (tkx B g m (tkx B g m p))) st120 sl110 := by rw [est120]; exact hT.up (by omega)
                  have hR : RN c nm st120 sl110 := by rw [est120]; exact hR.up (by omega)
                  refine lv_iload_n hx hb dX12_readSaid_176 rfl (lv_at hl 0 rfl) ?_
                  exact W.zret (v := 1) hx hb hr rfl (fun t ht hW => ⟨⟨1, (st120, sl110), rfl, ⟨hG, hF, Or.inl (⟨(tkx B g m (tkx B g m (tkx B g m p))), (gn + 1), (go + 1), gn, rfl, hT, by show st120 0 43 = _; rw [est120, up2_ne (r := 0) (k := 45) (a := 0) (j := 43) _ _ (by omega), hf111], by show st120 0 44 = _; rw [est120, up2_ne (r := 0) (k := 45) (a := 0) (j := 44) _ _ (by omega), (hFst109 0 44 (by decide)).1, (hFst106 0 44 (by decide)).1, est104, up2_ne (r := 0) (k := 45) (a := 0) (j := 44) _ _ (by omega), est103, up2_same], by show st120 0 45 = _; rw [est120, up2_same], by show st120 0 46 = _; rw [est120, up2_ne (r := 0) (k := 45) (a := 0) (j := 46) _ _ (by omega), hf112], by omega, by omega, by omega, by omega, by omega, (sO_i (d := 2) (Or.inr ⟨by omega, by omega⟩) (by omega)).trans ((sIn_c hf4 (by omega)).trans (hf113 _))⟩)⟩, mB.of ht hP⟩, hS.F ht⟩) hS.2.2 dX12_readSaid_177
                · refine lv_istore_n (lv' := [(3, .int 0), (2, .int (nI k85)), (1, .int 0), (0, .ref (ar 0))]) hx hb dX12_readSaid_165 rfl hl (by decide) rfl (fun ls hl => ?_)
                  refine lv_aload_n hx hb dX12_readSaid_166 rfl (lv_at hl 3 rfl) ?_
                  refine lv_dup hx hb dX12_readSaid_167 rfl ?_
                  refine va_get (D := (dC, dI)) (ci := 11) (v := .int (st109 0 45)) (C := RX12) (T := TX12) (N := 47) hx hb hts ii_X12_readSaid hown hK hP 0 rfl rfl 45 (by decide) (hts _ mm_X12_readSaid_2) (fun _ hh => hh) rfl dX12_readSaid_168 ?_
                  refine zz_top (v := 6) (by show st109 0 45 = _; rw [(hFst109 0 45 (by decide)).1, (hFst106 0 45 (by decide)).1, est104, up2_same]) ?_
                  refine lv_iconst (v := 1) hx hb dX12_readSaid_171 (by decide) ?_
                  refine lv_isub hx hb dX12_readSaid_172 ?_
                  refine zz_top (v := 5) (by decide) ?_
                  refine va_put (D := (dC, dI)) (ci := 11) (v := .int 5) (ty := .int) (C := RX12) (T := TX12) (N := 47) hx hb hts ii_X12_readSaid tyX12 tyX12_ok nmX12 hown hK hP (mD hN _ _ _ _) hS 0 rfl rfl 45 (by decide) (hts _ mm_X12_readSaid_2) (fun _ hh => hh) rfl (by decide +kernel) rfl rfl (Nat.le_of_ble_eq_true rfl) dX12_readSaid_173 (fun H locs hP _ hS => ?_)
                  have hP : va_P (dC, dI) vwCl (mw ar cy (up2 st109 0 45 5) sl110) H := hP
                  obtain ⟨st121, est121⟩ : ∃ y, y = up2 st109 0 45 5 := ⟨_, rfl⟩
                  have hG : MG [1, 2, 3, 6, 7, 13, 14, 15, 20, 21, 22] st st121 := by rw [est121]; exact hG.up (rn (n := 5) (by decide : mr 0 45 = 9) (by omega)) (pn (by decide : pcl 0 45 = 11) (by decide))
                  rw [← est121] at hP
                  have hF : FM 6 st sl st121 sl110 := by rw [est121]; exact hF.up (by decide)
                  have hR : RN c nm st121 sl110 := by rw [est121]; exact hR.up (by omega)
                  refine lv_iload_n hx hb dX12_readSaid_176 rfl (lv_at hl 0 rfl) ?_
                  exact W.zret (v := 0) hx hb hr rfl (fun t ht hW => ⟨⟨0, (st121, sl110), rfl, ⟨hG, hF, Or.inr (⟨n114, n115, rfl, by show st121 0 10 = _; rw [est121, up2_ne (r := 0) (k := 45) (a := 0) (j := 10) _ _ (by omega), hf116], by show st121 0 11 = _; rw [est121, up2_ne (r := 0) (k := 45) (a := 0) (j := 11) _ _ (by omega), hf117], hf118, (sO_i (d := 2) (Or.inr ⟨by omega, by omega⟩) (by omega)).trans ((sIn_c hf4 (by omega)).trans (hf119 _)), by show st121 0 45 = _; rw [est121, up2_same]⟩)⟩, mB.of ht hP⟩, hS.F ht⟩) hS.2.2 dX12_readSaid_177
              · have c23 : ¬ 20 ≤ k85 := fun hh => c23 ((nI_leI (a := 20) (b := k85) (by omega) (by omega)).mpr hh)
                by_cases cw122 : k85 = 18
                · have hcw122 := cw122
                  have hl : lv_has ls 4 [(3, .int 1), (2, .int 18), (1, .int 0), (0, .ref (ar 0))] := by rw [hcw122] at hl; exact hl
                  refine lv_aload_n hx hb dX12_readSaid_152 rfl (lv_at hl 3 rfl) ?_
                  refine lv_iload_n hx hb dX12_readSaid_153 rfl (lv_at hl 1 rfl) ?_
                  refine va_calli (va_runV (As := [.int 18]) (rest := []) ⟨hx, hb, hml, hown, hts⟩ (f_readOf18 l dC dI ar cy _ hN st106 sl107 B g m (tkx B g m p) c nm gn hG.1 (MBt.fr hB hF) hT hR (by rw [(hFst106 0 43 (by decide)).1, est104, up2_ne (r := 0) (k := 45) (a := 0) (j := 43) _ _ (by omega), est103, up2_ne (r := 0) (k := 44) (a := 0) (j := 43) _ _ (by omega), h43]) (by omega)) (cwV 1 hts gX12_readSaid_X12_readOf rfl rfl rfl (by decide +kernel) ⟨Nat.le_of_ble_eq_true rfl, Nat.le_of_ble_eq_true rfl⟩) ⟨fun a U g mk q => ⟨q.1, mPre.blind q.2⟩, va_recv hK hP (ci := 11) (q0 := 0) rfl rfl, fun U hU hW => ⟨rfl, mPre.of hP hK hU hW⟩⟩ rfl rfl hl.1 rfl (lv_room (Nat.le_of_ble_eq_true rfl)) dX12_readSaid_154 ⟨Nat.le_of_ble_eq_true rfl, Nat.le_of_ble_eq_true rfl⟩) hS (fun q _ h => MA.le hS.1 q h) (MA.le hS.1) (fun r123 x t H locs ht hvm hw hB9 _ _ hS => ?_)
                  have hP := mB.at ht hB9
                  clear hB9 ht hvm
                  obtain ⟨st124, sl125⟩ := x
                  obtain ⟨hG2, hF2, hw⟩ := hw
                  dsimp only at hG2 hF2 hw
                  have hP : va_P (dC, dI) vwCl (mw ar cy st124 sl125) _ := hP
                  have hG : MG [1, 2, 3, 6, 7, 13, 14, 15, 20, 21, 22] st st124 := hG.tr hG2 (by decide)
                  have hFst124 : FM 5 st106 sl107 st124 sl125 := hF2
                  have hF : FM 6 st sl st124 sl125 := hF.tr hFst124 (by omega) (by omega)
                  clear hG2 hF2
                  have hR : RN c nm st124 sl125 := hR.fr hFst124
                  rcases hw with ⟨rfl, hT, hf126, hf127, hf128⟩ | ⟨n129, n130, rfl, hf131, hf132, hf133, hf134⟩
                  · have hp9 := hT.2.2.2.2.2.2
                    have hk1 := tkd_lt (B := B) (g := g) (m := m) (p := (tkx B g m (tkx B g m p)))
                    have hk2 := tkx_le (B := B) (g := g) (m := m) (p := (tkx B g m (tkx B g m p))) hp9
                    have hk3 := tka_le (B := B) (g := g) (m := m) (p := (tkx B g m (tkx B g m p))) hp9 hB.2.2.1
                    have hk4 := tkv_lt (p := (tkx B g m (tkx B g m p))) hB hp9
                    have hk5 := tkw_lt (B := B) (g := g) (m := m) (p := (tkx B g m (tkx B g m p)))
                    refine lv_goto (tgt := 165) hx hb dX12_readSaid_157 (by decide) ?_
                    refine lv_istore_n (lv' := [(3, .int 1), (2, .int 18), (1, .int 0), (0, .ref (ar 0))]) hx hb dX12_readSaid_165 rfl hl (by decide) rfl (fun ls hl => ?_)
                    refine lv_aload_n hx hb dX12_readSaid_166 rfl (lv_at hl 3 rfl) ?_
                    refine lv_dup hx hb dX12_readSaid_167 rfl ?_
                    refine va_get (D := (dC, dI)) (ci := 11) (v := .int (st124 0 45)) (C := RX12) (T := TX12) (N := 47) hx hb hts ii_X12_readSaid hown hK hP 0 rfl rfl 45 (by decide) (hts _ mm_X12_readSaid_2) (fun _ hh => hh) rfl dX12_readSaid_168 ?_
                    refine zz_top (v := 6) (by show st124 0 45 = _; rw [(hFst124 0 45 (by decide)).1, (hFst106 0 45 (by decide)).1, est104, up2_same]) ?_
                    refine lv_iconst (v := 1) hx hb dX12_readSaid_171 (by decide) ?_
                    refine lv_isub hx hb dX12_readSaid_172 ?_
                    refine zz_top (v := 5) (by decide) ?_
                    refine va_put (D := (dC, dI)) (ci := 11) (v := .int 5) (ty := .int) (C := RX12) (T := TX12) (N := 47) hx hb hts ii_X12_readSaid tyX12 tyX12_ok nmX12 hown hK hP (mD hN _ _ _ _) hS 0 rfl rfl 45 (by decide) (hts _ mm_X12_readSaid_2) (fun _ hh => hh) rfl (by decide +kernel) rfl rfl (Nat.le_of_ble_eq_true rfl) dX12_readSaid_173 (fun H locs hP _ hS => ?_)
                    have hP : va_P (dC, dI) vwCl (mw ar cy (up2 st124 0 45 5) sl125) H := hP
                    obtain ⟨st135, est135⟩ : ∃ y, y = up2 st124 0 45 5 := ⟨_, rfl⟩
                    have hG : MG [1, 2, 3, 6, 7, 13, 14, 15, 20, 21, 22] st st135 := by rw [est135]; exact hG.up (rn (n := 5) (by decide : mr 0 45 = 9) (by omega)) (pn (by decide : pcl 0 45 = 11) (by decide))
                    rw [← est135] at hP
                    have hF : FM 6 st sl st135 sl125 := by rw [est135]; exact hF.up (by decide)
                    have hT : TM B g m (tkx B g m (tkx B g m p)) st135 sl125 := by rw [est135]; exact hT.up (by omega)
                    have hR : RN c nm st135 sl125 := by rw [est135]; exact hR.up (by omega)
                    refine lv_iload_n hx hb dX12_readSaid_176 rfl (lv_at hl 0 rfl) ?_
                    exact W.zret (v := 1) hx hb hr rfl (fun t ht hW => ⟨⟨1, (st135, sl125), rfl, ⟨hG, hF, Or.inl (⟨(tkx B g m (tkx B g m p)), (gn + 1), (go + 1), gn, rfl, hT, by show st135 0 43 = _; rw [est135, up2_ne (r := 0) (k := 45) (a := 0) (j := 43) _ _ (by omega), hf126], by show st135 0 44 = _; rw [est135, up2_ne (r := 0) (k := 45) (a := 0) (j := 44) _ _ (by omega), (hFst124 0 44 (by decide)).1, (hFst106 0 44 (by decide)).1, est104, up2_ne (r := 0) (k := 45) (a := 0) (j := 44) _ _ (by omega), est103, up2_same], by show st135 0 45 = _; rw [est135, up2_same], by show st135 0 46 = _; rw [est135, up2_ne (r := 0) (k := 45) (a := 0) (j := 46) _ _ (by omega), hf127], by omega, by omega, by omega, by omega, by omega, (sO_i (d := 2) (Or.inr ⟨by omega, by omega⟩) (by omega)).trans ((sIn_m hf4 (by omega)).trans (hf128 _))⟩)⟩, mB.of ht hP⟩, hS.F ht⟩) hS.2.2 dX12_readSaid_177
                  · refine lv_goto (tgt := 165) hx hb dX12_readSaid_157 (by decide) ?_
                    refine lv_istore_n (lv' := [(3, .int 0), (2, .int 18), (1, .int 0), (0, .ref (ar 0))]) hx hb dX12_readSaid_165 rfl hl (by decide) rfl (fun ls hl => ?_)
                    refine lv_aload_n hx hb dX12_readSaid_166 rfl (lv_at hl 3 rfl) ?_
                    refine lv_dup hx hb dX12_readSaid_167 rfl ?_
                    refine va_get (D := (dC, dI)) (ci := 11) (v := .int (st124 0 45)) (C := RX12) (T := TX12) (N := 47) hx hb hts ii_X12_readSaid hown hK hP 0 rfl rfl 45 (by decide) (hts _ mm_X12_readSaid_2) (fun _ hh => hh) rfl dX12_readSaid_168 ?_
                    refine zz_top (v := 6) (by show st124 0 45 = _; rw [(hFst124 0 45 (by decide)).1, (hFst106 0 45 (by decide)).1, est104, up2_same]) ?_
                    refine lv_iconst (v := 1) hx hb dX12_readSaid_171 (by decide) ?_
                    refine lv_isub hx hb dX12_readSaid_172 ?_
                    refine zz_top (v := 5) (by decide) ?_
                    refine va_put (D := (dC, dI)) (ci := 11) (v := .int 5) (ty := .int) (C := RX12) (T := TX12) (N := 47) hx hb hts ii_X12_readSaid tyX12 tyX12_ok nmX12 hown hK hP (mD hN _ _ _ _) hS 0 rfl rfl 45 (by decide) (hts _ mm_X12_readSaid_2) (fun _ hh => hh) rfl (by decide +kernel) rfl rfl (Nat.le_of_ble_eq_true rfl) dX12_readSaid_173 (fun H locs hP _ hS => ?_)
                    have hP : va_P (dC, dI) vwCl (mw ar cy (up2 st124 0 45 5) sl125) H := hP
                    obtain ⟨st136, est136⟩ : ∃ y, y = up2 st124 0 45 5 := ⟨_, rfl⟩
                    have hG : MG [1, 2, 3, 6, 7, 13, 14, 15, 20, 21, 22] st st136 := by rw [est136]; exact hG.up (rn (n := 5) (by decide : mr 0 45 = 9) (by omega)) (pn (by decide : pcl 0 45 = 11) (by decide))
                    rw [← est136] at hP
                    have hF : FM 6 st sl st136 sl125 := by rw [est136]; exact hF.up (by decide)
                    have hR : RN c nm st136 sl125 := by rw [est136]; exact hR.up (by omega)
                    refine lv_iload_n hx hb dX12_readSaid_176 rfl (lv_at hl 0 rfl) ?_
                    exact W.zret (v := 0) hx hb hr rfl (fun t ht hW => ⟨⟨0, (st136, sl125), rfl, ⟨hG, hF, Or.inr (⟨n129, n130, rfl, by show st136 0 10 = _; rw [est136, up2_ne (r := 0) (k := 45) (a := 0) (j := 10) _ _ (by omega), hf131], by show st136 0 11 = _; rw [est136, up2_ne (r := 0) (k := 45) (a := 0) (j := 11) _ _ (by omega), hf132], hf133, (sO_i (d := 2) (Or.inr ⟨by omega, by omega⟩) (by omega)).trans ((sIn_m hf4 (by omega)).trans (hf134 _)), by show st136 0 45 = _; rw [est136, up2_same]⟩)⟩, mB.of ht hP⟩, hS.F ht⟩) hS.2.2 dX12_readSaid_177
                have hcw137 : k85 = 19 := by omega
                have hl : lv_has ls 4 [(3, .int 1), (2, .int 19), (1, .int 0), (0, .ref (ar 0))] := by rw [hcw137] at hl; exact hl
                refine lv_aload_n hx hb dX12_readSaid_152 rfl (lv_at hl 3 rfl) ?_
                refine lv_iload_n hx hb dX12_readSaid_153 rfl (lv_at hl 1 rfl) ?_
                refine va_calli (va_runV (As := [.int 19]) (rest := []) ⟨hx, hb, hml, hown, hts⟩ (f_readOf19 l dC dI ar cy _ hN st106 sl107 B g m (tkx B g m p) c nm gn hG.1 (MBt.fr hB hF) hT hR (by rw [(hFst106 0 43 (by decide)).1, est104, up2_ne (r := 0) (k := 45) (a := 0) (j := 43) _ _ (by omega), est103, up2_ne (r := 0) (k := 44) (a := 0) (j := 43) _ _ (by omega), h43]) (by omega)) (cwV 1 hts gX12_readSaid_X12_readOf rfl rfl rfl (by decide +kernel) ⟨Nat.le_of_ble_eq_true rfl, Nat.le_of_ble_eq_true rfl⟩) ⟨fun a U g mk q => ⟨q.1, mPre.blind q.2⟩, va_recv hK hP (ci := 11) (q0 := 0) rfl rfl, fun U hU hW => ⟨rfl, mPre.of hP hK hU hW⟩⟩ rfl rfl hl.1 rfl (lv_room (Nat.le_of_ble_eq_true rfl)) dX12_readSaid_154 ⟨Nat.le_of_ble_eq_true rfl, Nat.le_of_ble_eq_true rfl⟩) hS (fun q _ h => MA.le hS.1 q h) (MA.le hS.1) (fun r138 x t H locs ht hvm hw hB9 _ _ hS => ?_)
                have hP := mB.at ht hB9
                clear hB9 ht hvm
                obtain ⟨st139, sl140⟩ := x
                obtain ⟨hG2, hF2, hw⟩ := hw
                dsimp only at hG2 hF2 hw
                have hP : va_P (dC, dI) vwCl (mw ar cy st139 sl140) _ := hP
                have hG : MG [1, 2, 3, 6, 7, 13, 14, 15, 20, 21, 22] st st139 := hG.tr hG2 (by decide)
                have hFst139 : FM 5 st106 sl107 st139 sl140 := hF2
                have hF : FM 6 st sl st139 sl140 := hF.tr hFst139 (by omega) (by omega)
                clear hG2 hF2
                have hR : RN c nm st139 sl140 := hR.fr hFst139
                rcases hw with ⟨rfl, hT, hf141, hf142, hf143⟩ | ⟨n144, n145, rfl, hf146, hf147, hf148, hf149⟩
                · have hp9 := hT.2.2.2.2.2.2
                  have hk1 := tkd_lt (B := B) (g := g) (m := m) (p := (tkx B g m (tkx B g m p)))
                  have hk2 := tkx_le (B := B) (g := g) (m := m) (p := (tkx B g m (tkx B g m p))) hp9
                  have hk3 := tka_le (B := B) (g := g) (m := m) (p := (tkx B g m (tkx B g m p))) hp9 hB.2.2.1
                  have hk4 := tkv_lt (p := (tkx B g m (tkx B g m p))) hB hp9
                  have hk5 := tkw_lt (B := B) (g := g) (m := m) (p := (tkx B g m (tkx B g m p)))
                  refine lv_goto (tgt := 165) hx hb dX12_readSaid_157 (by decide) ?_
                  refine lv_istore_n (lv' := [(3, .int 1), (2, .int 19), (1, .int 0), (0, .ref (ar 0))]) hx hb dX12_readSaid_165 rfl hl (by decide) rfl (fun ls hl => ?_)
                  refine lv_aload_n hx hb dX12_readSaid_166 rfl (lv_at hl 3 rfl) ?_
                  refine lv_dup hx hb dX12_readSaid_167 rfl ?_
                  refine va_get (D := (dC, dI)) (ci := 11) (v := .int (st139 0 45)) (C := RX12) (T := TX12) (N := 47) hx hb hts ii_X12_readSaid hown hK hP 0 rfl rfl 45 (by decide) (hts _ mm_X12_readSaid_2) (fun _ hh => hh) rfl dX12_readSaid_168 ?_
                  refine zz_top (v := 6) (by show st139 0 45 = _; rw [(hFst139 0 45 (by decide)).1, (hFst106 0 45 (by decide)).1, est104, up2_same]) ?_
                  refine lv_iconst (v := 1) hx hb dX12_readSaid_171 (by decide) ?_
                  refine lv_isub hx hb dX12_readSaid_172 ?_
                  refine zz_top (v := 5) (by decide) ?_
                  refine va_put (D := (dC, dI)) (ci := 11) (v := .int 5) (ty := .int) (C := RX12) (T := TX12) (N := 47) hx hb hts ii_X12_readSaid tyX12 tyX12_ok nmX12 hown hK hP (mD hN _ _ _ _) hS 0 rfl rfl 45 (by decide) (hts _ mm_X12_readSaid_2) (fun _ hh => hh) rfl (by decide +kernel) rfl rfl (Nat.le_of_ble_eq_true rfl) dX12_readSaid_173 (fun H locs hP _ hS => ?_)
                  have hP : va_P (dC, dI) vwCl (mw ar cy (up2 st139 0 45 5) sl140) H := hP
                  obtain ⟨st150, est150⟩ : ∃ y, y = up2 st139 0 45 5 := ⟨_, rfl⟩
                  have hG : MG [1, 2, 3, 6, 7, 13, 14, 15, 20, 21, 22] st st150 := by rw [est150]; exact hG.up (rn (n := 5) (by decide : mr 0 45 = 9) (by omega)) (pn (by decide : pcl 0 45 = 11) (by decide))
                  rw [← est150] at hP
                  have hF : FM 6 st sl st150 sl140 := by rw [est150]; exact hF.up (by decide)
                  have hT : TM B g m (tkx B g m (tkx B g m p)) st150 sl140 := by rw [est150]; exact hT.up (by omega)
                  have hR : RN c nm st150 sl140 := by rw [est150]; exact hR.up (by omega)
                  refine lv_iload_n hx hb dX12_readSaid_176 rfl (lv_at hl 0 rfl) ?_
                  exact W.zret (v := 1) hx hb hr rfl (fun t ht hW => ⟨⟨1, (st150, sl140), rfl, ⟨hG, hF, Or.inl (⟨(tkx B g m (tkx B g m p)), (gn + 1), (go + 1), gn, rfl, hT, by show st150 0 43 = _; rw [est150, up2_ne (r := 0) (k := 45) (a := 0) (j := 43) _ _ (by omega), hf141], by show st150 0 44 = _; rw [est150, up2_ne (r := 0) (k := 45) (a := 0) (j := 44) _ _ (by omega), (hFst139 0 44 (by decide)).1, (hFst106 0 44 (by decide)).1, est104, up2_ne (r := 0) (k := 45) (a := 0) (j := 44) _ _ (by omega), est103, up2_same], by show st150 0 45 = _; rw [est150, up2_same], by show st150 0 46 = _; rw [est150, up2_ne (r := 0) (k := 45) (a := 0) (j := 46) _ _ (by omega), hf142], by omega, by omega, by omega, by omega, by omega, (sO_i (d := 2) (Or.inr ⟨by omega, by omega⟩) (by omega)).trans ((sIn_a hf4 (by omega)).trans (hf143 _))⟩)⟩, mB.of ht hP⟩, hS.F ht⟩) hS.2.2 dX12_readSaid_177
                · refine lv_goto (tgt := 165) hx hb dX12_readSaid_157 (by decide) ?_
                  refine lv_istore_n (lv' := [(3, .int 0), (2, .int 19), (1, .int 0), (0, .ref (ar 0))]) hx hb dX12_readSaid_165 rfl hl (by decide) rfl (fun ls hl => ?_)
                  refine lv_aload_n hx hb dX12_readSaid_166 rfl (lv_at hl 3 rfl) ?_
                  refine lv_dup hx hb dX12_readSaid_167 rfl ?_
                  refine va_get (D := (dC, dI)) (ci := 11) (v := .int (st139 0 45)) (C := RX12) (T := TX12) (N := 47) hx hb hts ii_X12_readSaid hown hK hP 0 rfl rfl 45 (by decide) (hts _ mm_X12_readSaid_2) (fun _ hh => hh) rfl dX12_readSaid_168 ?_
                  refine zz_top (v := 6) (by show st139 0 45 = _; rw [(hFst139 0 45 (by decide)).1, (hFst106 0 45 (by decide)).1, est104, up2_same]) ?_
                  refine lv_iconst (v := 1) hx hb dX12_readSaid_171 (by decide) ?_
                  refine lv_isub hx hb dX12_readSaid_172 ?_
                  refine zz_top (v := 5) (by decide) ?_
                  refine va_put (D := (dC, dI)) (ci := 11) (v := .int 5) (ty := .int) (C := RX12) (T := TX12) (N := 47) hx hb hts ii_X12_readSaid tyX12 tyX12_ok nmX12 hown hK hP (mD hN _ _ _ _) hS 0 rfl rfl 45 (by decide) (hts _ mm_X12_readSaid_2) (fun _ hh => hh) rfl (by decide +kernel) rfl rfl (Nat.le_of_ble_eq_true rfl) dX12_readSaid_173 (fun H locs hP _ hS => ?_)
                  have hP : va_P (dC, dI) vwCl (mw ar cy (up2 st139 0 45 5) sl140) H := hP
                  obtain ⟨st151, est151⟩ : ∃ y, y = up2 st139 0 45 5 := ⟨_, rfl⟩
                  have hG : MG [1, 2, 3, 6, 7, 13, 14, 15, 20, 21, 22] st st151 := by rw [est151]; exact hG.up (rn (n := 5) (by decide : mr 0 45 = 9) (by omega)) (pn (by decide : pcl 0 45 = 11) (by decide))
                  rw [← est151] at hP
                  have hF : FM 6 st sl st151 sl140 := by rw [est151]; exact hF.up (by decide)
                  have hR : RN c nm st151 sl140 := by rw [est151]; exact hR.up (by omega)
                  refine lv_iload_n hx hb dX12_readSaid_176 rfl (lv_at hl 0 rfl) ?_
                  exact W.zret (v := 0) hx hb hr rfl (fun t ht hW => ⟨⟨0, (st151, sl140), rfl, ⟨hG, hF, Or.inr (⟨n144, n145, rfl, by show st151 0 10 = _; rw [est151, up2_ne (r := 0) (k := 45) (a := 0) (j := 10) _ _ (by omega), hf146], by show st151 0 11 = _; rw [est151, up2_ne (r := 0) (k := 45) (a := 0) (j := 11) _ _ (by omega), hf147], hf148, (sO_i (d := 2) (Or.inr ⟨by omega, by omega⟩) (by omega)).trans ((sIn_a hf4 (by omega)).trans (hf149 _)), by show st151 0 45 = _; rw [est151, up2_same]⟩)⟩, mB.of ht hP⟩, hS.F ht⟩) hS.2.2 dX12_readSaid_177
            · have c22 : ¬ 18 ≤ k85 := fun hh => c22 ((nI_leI (a := 18) (b := k85) (by omega) (by omega)).mpr hh)
              refine lv_aload_n hx hb dX12_readSaid_128 rfl (lv_at hl 3 rfl) ?_
              refine lv_aload_n hx hb dX12_readSaid_129 rfl (lv_at hl 3 rfl) ?_
              refine lv_bipush (v := 50) hx hb dX12_readSaid_130 (by decide) ?_
              refine lv_iload_n hx hb dX12_readSaid_132 rfl (lv_at hl 1 rfl) ?_
              refine lv_iadd hx hb dX12_readSaid_133 ?_
              refine zz_top (v := nI (50 + k85)) (nI_add 50 k85) ?_
              refine lv_iconst (v := 0) hx hb dX12_readSaid_134 (by decide) ?_
              refine lv_iconst (v := 0) hx hb dX12_readSaid_135 (by decide) ?_
              refine lv_iconst (v := 0) hx hb dX12_readSaid_136 (by decide) ?_
              refine va_calli (va_runV (As := [.int (nI (50 + k85)), .int 0, .int 0, .int 0]) (rest := [.ref (ar 0)]) ⟨hx, hb, hml, hown, hts⟩ (f_saysOne l dC dI ar cy _ hN st106 sl107 (nI (50 + k85)) 0 0 0 B g m (tkx B g m p) gn hG.1 (MBt.fr hB hF) hT (by rw [(hFst106 0 43 (by decide)).1, est104, up2_ne (r := 0) (k := 45) (a := 0) (j := 43) _ _ (by omega), est103, up2_ne (r := 0) (k := 44) (a := 0) (j := 43) _ _ (by omega), h43]) (by omega)) (cwV 4 hts gX12_readSaid_X12_saysOne rfl rfl rfl (by decide +kernel) ⟨Nat.le_of_ble_eq_true rfl, Nat.le_of_ble_eq_true rfl⟩) ⟨fun a U g mk q => ⟨q.1, mPre.blind q.2⟩, va_recv hK hP (ci := 11) (q0 := 0) rfl rfl, fun U hU hW => ⟨rfl, mPre.of hP hK hU hW⟩⟩ rfl rfl hl.1 rfl (lv_room (Nat.le_of_ble_eq_true rfl)) dX12_readSaid_137 ⟨Nat.le_of_ble_eq_true rfl, Nat.le_of_ble_eq_true rfl⟩) hS (fun q _ h => MA.le hS.1 q h) (MA.le hS.1) (fun r152 x t H locs ht hvm hw hB9 _ _ hS => ?_)
              have hP := mB.at ht hB9
              clear hB9 ht hvm
              obtain ⟨st153, sl154⟩ := x
              obtain ⟨hG2, hF2, hw⟩ := hw
              dsimp only at hG2 hF2 hw
              have hP : va_P (dC, dI) vwCl (mw ar cy st153 sl154) _ := hP
              have hG : MG [1, 2, 3, 6, 7, 13, 14, 15, 20, 21, 22] st st153 := hG.tr hG2 (by decide)
              have hFst153 : FM 5 st106 sl107 st153 sl154 := hF2
              have hF : FM 6 st sl st153 sl154 := hF.tr hFst153 (by omega) (by omega)
              clear hG2 hF2
              have hR : RN c nm st153 sl154 := hR.fr hFst153
              obtain ⟨n155, rfl, hf156, hf157, hT⟩ := hw
              have hp9 := hT.2.2.2.2.2.2
              have hk1 := tkd_lt (B := B) (g := g) (m := m) (p := (tkx B g m p))
              have hk2 := tkx_le (B := B) (g := g) (m := m) (p := (tkx B g m p)) hp9
              have hk3 := tka_le (B := B) (g := g) (m := m) (p := (tkx B g m p)) hp9 hB.2.2.1
              have hk4 := tkv_lt (p := (tkx B g m p)) hB hp9
              have hk5 := tkw_lt (B := B) (g := g) (m := m) (p := (tkx B g m p))
              refine va_put (D := (dC, dI)) (ci := 11) (v := .int (nI n155)) (ty := .int) (C := RX12) (T := TX12) (N := 47) hx hb hts ii_X12_readSaid tyX12 tyX12_ok nmX12 hown hK hP (mD hN _ _ _ _) hS 0 rfl rfl 46 (by decide) (hts _ mm_X12_readSaid_3) (fun _ hh => hh) rfl (by decide +kernel) rfl rfl (Nat.le_of_ble_eq_true rfl) dX12_readSaid_140 (fun H locs hP _ hS => ?_)
              have hP : va_P (dC, dI) vwCl (mw ar cy (up2 st153 0 46 (nI n155)) sl154) H := hP
              obtain ⟨st158, est158⟩ : ∃ y, y = up2 st153 0 46 (nI n155) := ⟨_, rfl⟩
              have hG : MG [1, 2, 3, 6, 7, 13, 14, 15, 20, 21, 22] st st158 := by rw [est158]; exact hG.up (rn (n := n155) (by decide : mr 0 46 = 60) (by omega)) (pn (by decide : pcl 0 46 = 12) (by decide))
              rw [← est158] at hP
              have hF : FM 6 st sl st158 sl154 := by rw [est158]; exact hF.up (by decide)
              have hT : TM B g m (tkx B g m p) st158 sl154 := by rw [est158]; exact hT.up (by omega)
              have hR : RN c nm st158 sl154 := by rw [est158]; exact hR.up (by omega)
              refine lv_goto (tgt := 166) hx hb dX12_readSaid_143 (by decide) ?_
              refine lv_aload_n hx hb dX12_readSaid_166 rfl (lv_at hl 3 rfl) ?_
              refine lv_dup hx hb dX12_readSaid_167 rfl ?_
              refine va_get (D := (dC, dI)) (ci := 11) (v := .int (st158 0 45)) (C := RX12) (T := TX12) (N := 47) hx hb hts ii_X12_readSaid hown hK hP 0 rfl rfl 45 (by decide) (hts _ mm_X12_readSaid_2) (fun _ hh => hh) rfl dX12_readSaid_168 ?_
              refine zz_top (v := 6) (by show st158 0 45 = _; rw [est158, up2_ne (r := 0) (k := 46) (a := 0) (j := 45) _ _ (by omega), (hFst153 0 45 (by decide)).1, (hFst106 0 45 (by decide)).1, est104, up2_same]) ?_
              refine lv_iconst (v := 1) hx hb dX12_readSaid_171 (by decide) ?_
              refine lv_isub hx hb dX12_readSaid_172 ?_
              refine zz_top (v := 5) (by decide) ?_
              refine va_put (D := (dC, dI)) (ci := 11) (v := .int 5) (ty := .int) (C := RX12) (T := TX12) (N := 47) hx hb hts ii_X12_readSaid tyX12 tyX12_ok nmX12 hown hK hP (mD hN _ _ _ _) hS 0 rfl rfl 45 (by decide) (hts _ mm_X12_readSaid_2) (fun _ hh => hh) rfl (by decide +kernel) rfl rfl (Nat.le_of_ble_eq_true rfl) dX12_readSaid_173 (fun H locs hP _ hS => ?_)
              have hP : va_P (dC, dI) vwCl (mw ar cy (up2 st158 0 45 5) sl154) H := hP
              obtain ⟨st159, est159⟩ : ∃ y, y = up2 st158 0 45 5 := ⟨_, rfl⟩
              have hG : MG [1, 2, 3, 6, 7, 13, 14, 15, 20, 21, 22] st st159 := by rw [est159]; exact hG.up (rn (n := 5) (by decide : mr 0 45 = 9) (by omega)) (pn (by decide : pcl 0 45 = 11) (by decide))
              rw [← est159] at hP
              have hF : FM 6 st sl st159 sl154 := by rw [est159]; exact hF.up (by decide)
              have hT : TM B g m (tkx B g m p) st159 sl154 := by rw [est159]; exact hT.up (by omega)
              have hR : RN c nm st159 sl154 := by rw [est159]; exact hR.up (by omega)
              refine lv_iload_n hx hb dX12_readSaid_176 rfl (lv_at hl 0 rfl) ?_
              exact W.zret (v := 1) hx hb hr rfl (fun t ht hW => ⟨⟨1, (st159, sl154), rfl, ⟨hG, hF, Or.inl (⟨(tkx B g m p), (gn + 1), (go + 1), n155, rfl, hT, by show st159 0 43 = _; rw [est159, up2_ne (r := 0) (k := 45) (a := 0) (j := 43) _ _ (by omega), est158, up2_ne (r := 0) (k := 46) (a := 0) (j := 43) _ _ (by omega), hf157], by show st159 0 44 = _; rw [est159, up2_ne (r := 0) (k := 45) (a := 0) (j := 44) _ _ (by omega), est158, up2_ne (r := 0) (k := 46) (a := 0) (j := 44) _ _ (by omega), (hFst153 0 44 (by decide)).1, (hFst106 0 44 (by decide)).1, est104, up2_ne (r := 0) (k := 45) (a := 0) (j := 44) _ _ (by omega), est103, up2_same], by show st159 0 45 = _; rw [est159, up2_same], by show st159 0 46 = _; rw [est159, up2_ne (r := 0) (k := 45) (a := 0) (j := 46) _ _ (by omega), est158, up2_same], by omega, by omega, by omega, by omega, by omega, (sO_i (d := 2) (Or.inr ⟨by omega, by omega⟩) (by omega)).trans (sIn_o hf4 (by omega))⟩)⟩, mB.of ht hP⟩, hS.F ht⟩) hS.2.2 dX12_readSaid_177
          · have c21 : k85 = 15 := (nI_eq (a := k85) (b := 15) (by omega) (by omega)).mp c21
            refine lv_aload_n hx hb dX12_readSaid_114 rfl (lv_at hl 3 rfl) ?_
            refine va_calli (va_runV (As := []) (rest := []) ⟨hx, hb, hml, hown, hts⟩ (f_readNot_6 l dC dI ar cy _ hN st106 sl107 B g m (tkx B g m p) c nm gn (go + 1) hG.1 (MBt.fr hB hF) hT hR (by rw [(hFst106 0 43 (by decide)).1, est104, up2_ne (r := 0) (k := 45) (a := 0) (j := 43) _ _ (by omega), est103, up2_ne (r := 0) (k := 44) (a := 0) (j := 43) _ _ (by omega), h43]) (by rw [(hFst106 0 44 (by decide)).1, est104, up2_ne (r := 0) (k := 45) (a := 0) (j := 44) _ _ (by omega), est103, up2_same]) (by rw [(hFst106 0 45 (by decide)).1, est104, up2_same]) (by omega) (by omega)) (cwV 0 hts gX12_readSaid_X12_readNot rfl rfl rfl (by decide +kernel) ⟨Nat.le_of_ble_eq_true rfl, Nat.le_of_ble_eq_true rfl⟩) ⟨fun a U g mk q => ⟨q.1, mPre.blind q.2⟩, va_recv hK hP (ci := 11) (q0 := 0) rfl rfl, fun U hU hW => ⟨rfl, mPre.of hP hK hU hW⟩⟩ rfl rfl hl.1 rfl (lv_room (Nat.le_of_ble_eq_true rfl)) dX12_readSaid_115 ⟨Nat.le_of_ble_eq_true rfl, Nat.le_of_ble_eq_true rfl⟩) hS (fun q _ h => MA.le hS.1 q h) (MA.le hS.1) (fun r160 x t H locs ht hvm hw hB9 _ _ hS => ?_)
            have hP := mB.at ht hB9
            clear hB9 ht hvm
            obtain ⟨st161, sl162⟩ := x
            obtain ⟨hG2, hF2, hw⟩ := hw
            dsimp only at hG2 hF2 hw
            have hP : va_P (dC, dI) vwCl (mw ar cy st161 sl162) _ := hP
            have hG : MG [1, 2, 3, 6, 7, 13, 14, 15, 20, 21, 22] st st161 := hG.tr hG2 (by decide)
            have hFst161 : FM 6 st106 sl107 st161 sl162 := hF2
            have hF : FM 6 st sl st161 sl162 := hF.tr hFst161 (by omega) (by omega)
            clear hG2 hF2
            have hR : RN c nm st161 sl162 := hR.fr hFst161
            rcases hw with ⟨n163, n164, n165, n166, rfl, hT, hf167, hf168, hf169, hf170, hf171, hf172, hf173, hf174, hf175, hf176⟩ | ⟨n177, n178, rfl, hf179, hf180, hf181, hf182, hf183⟩
            · have hp9 := hT.2.2.2.2.2.2
              have hk1 := tkd_lt (B := B) (g := g) (m := m) (p := n163)
              have hk2 := tkx_le (B := B) (g := g) (m := m) (p := n163) hp9
              have hk3 := tka_le (B := B) (g := g) (m := m) (p := n163) hp9 hB.2.2.1
              have hk4 := tkv_lt (p := n163) hB hp9
              have hk5 := tkw_lt (B := B) (g := g) (m := m) (p := n163)
              refine lv_istore_n (lv' := [(3, .int 1), (2, .int (nI k85)), (1, .int 0), (0, .ref (ar 0))]) hx hb dX12_readSaid_118 rfl hl (by decide) rfl (fun ls hl => ?_)
              refine lv_goto (tgt := 166) hx hb dX12_readSaid_119 (by decide) ?_
              refine lv_aload_n hx hb dX12_readSaid_166 rfl (lv_at hl 3 rfl) ?_
              refine lv_dup hx hb dX12_readSaid_167 rfl ?_
              refine va_get (D := (dC, dI)) (ci := 11) (v := .int (st161 0 45)) (C := RX12) (T := TX12) (N := 47) hx hb hts ii_X12_readSaid hown hK hP 0 rfl rfl 45 (by decide) (hts _ mm_X12_readSaid_2) (fun _ hh => hh) rfl dX12_readSaid_168 ?_
              refine zz_top (v := 6) (by show st161 0 45 = _; rw [hf169]) ?_
              refine lv_iconst (v := 1) hx hb dX12_readSaid_171 (by decide) ?_
              refine lv_isub hx hb dX12_readSaid_172 ?_
              refine zz_top (v := 5) (by decide) ?_
              refine va_put (D := (dC, dI)) (ci := 11) (v := .int 5) (ty := .int) (C := RX12) (T := TX12) (N := 47) hx hb hts ii_X12_readSaid tyX12 tyX12_ok nmX12 hown hK hP (mD hN _ _ _ _) hS 0 rfl rfl 45 (by decide) (hts _ mm_X12_readSaid_2) (fun _ hh => hh) rfl (by decide +kernel) rfl rfl (Nat.le_of_ble_eq_true rfl) dX12_readSaid_173 (fun H locs hP _ hS => ?_)
              have hP : va_P (dC, dI) vwCl (mw ar cy (up2 st161 0 45 5) sl162) H := hP
              obtain ⟨st184, est184⟩ : ∃ y, y = up2 st161 0 45 5 := ⟨_, rfl⟩
              have hG : MG [1, 2, 3, 6, 7, 13, 14, 15, 20, 21, 22] st st184 := by rw [est184]; exact hG.up (rn (n := 5) (by decide : mr 0 45 = 9) (by omega)) (pn (by decide : pcl 0 45 = 11) (by decide))
              rw [← est184] at hP
              have hF : FM 6 st sl st184 sl162 := by rw [est184]; exact hF.up (by decide)
              have hT : TM B g m n163 st184 sl162 := by rw [est184]; exact hT.up (by omega)
              have hR : RN c nm st184 sl162 := by rw [est184]; exact hR.up (by omega)
              refine lv_iload_n hx hb dX12_readSaid_176 rfl (lv_at hl 0 rfl) ?_
              exact W.zret (v := 1) hx hb hr rfl (fun t ht hW => ⟨⟨1, (st184, sl162), rfl, ⟨hG, hF, Or.inl (⟨n163, n164, n165, n166, rfl, hT, by show st184 0 43 = _; rw [est184, up2_ne (r := 0) (k := 45) (a := 0) (j := 43) _ _ (by omega), hf167], by show st184 0 44 = _; rw [est184, up2_ne (r := 0) (k := 45) (a := 0) (j := 44) _ _ (by omega), hf168], by show st184 0 45 = _; rw [est184, up2_same], by show st184 0 46 = _; rw [est184, up2_ne (r := 0) (k := 45) (a := 0) (j := 46) _ _ (by omega), hf170], by omega, by omega, by omega, by omega, by omega, (sO_i (d := 2) (Or.inr ⟨by omega, by omega⟩) (by omega)).trans ((sIn_n hf4 (by omega)).trans hf176)⟩)⟩, mB.of ht hP⟩, hS.F ht⟩) hS.2.2 dX12_readSaid_177
            · refine lv_istore_n (lv' := [(3, .int 0), (2, .int (nI k85)), (1, .int 0), (0, .ref (ar 0))]) hx hb dX12_readSaid_118 rfl hl (by decide) rfl (fun ls hl => ?_)
              refine lv_goto (tgt := 166) hx hb dX12_readSaid_119 (by decide) ?_
              refine lv_aload_n hx hb dX12_readSaid_166 rfl (lv_at hl 3 rfl) ?_
              refine lv_dup hx hb dX12_readSaid_167 rfl ?_
              refine va_get (D := (dC, dI)) (ci := 11) (v := .int (st161 0 45)) (C := RX12) (T := TX12) (N := 47) hx hb hts ii_X12_readSaid hown hK hP 0 rfl rfl 45 (by decide) (hts _ mm_X12_readSaid_2) (fun _ hh => hh) rfl dX12_readSaid_168 ?_
              refine zz_top (v := 6) (by show st161 0 45 = _; rw [hf183]) ?_
              refine lv_iconst (v := 1) hx hb dX12_readSaid_171 (by decide) ?_
              refine lv_isub hx hb dX12_readSaid_172 ?_
              refine zz_top (v := 5) (by decide) ?_
              refine va_put (D := (dC, dI)) (ci := 11) (v := .int 5) (ty := .int) (C := RX12) (T := TX12) (N := 47) hx hb hts ii_X12_readSaid tyX12 tyX12_ok nmX12 hown hK hP (mD hN _ _ _ _) hS 0 rfl rfl 45 (by decide) (hts _ mm_X12_readSaid_2) (fun _ hh => hh) rfl (by decide +kernel) rfl rfl (Nat.le_of_ble_eq_true rfl) dX12_readSaid_173 (fun H locs hP _ hS => ?_)
              have hP : va_P (dC, dI) vwCl (mw ar cy (up2 st161 0 45 5) sl162) H := hP
              obtain ⟨st185, est185⟩ : ∃ y, y = up2 st161 0 45 5 := ⟨_, rfl⟩
              have hG : MG [1, 2, 3, 6, 7, 13, 14, 15, 20, 21, 22] st st185 := by rw [est185]; exact hG.up (rn (n := 5) (by decide : mr 0 45 = 9) (by omega)) (pn (by decide : pcl 0 45 = 11) (by decide))
              rw [← est185] at hP
              have hF : FM 6 st sl st185 sl162 := by rw [est185]; exact hF.up (by decide)
              have hR : RN c nm st185 sl162 := by rw [est185]; exact hR.up (by omega)
              refine lv_iload_n hx hb dX12_readSaid_176 rfl (lv_at hl 0 rfl) ?_
              exact W.zret (v := 0) hx hb hr rfl (fun t ht hW => ⟨⟨0, (st185, sl162), rfl, ⟨hG, hF, Or.inr (⟨n177, n178, rfl, by show st185 0 10 = _; rw [est185, up2_ne (r := 0) (k := 45) (a := 0) (j := 10) _ _ (by omega), hf179], by show st185 0 11 = _; rw [est185, up2_ne (r := 0) (k := 45) (a := 0) (j := 11) _ _ (by omega), hf180], hf181, (sO_i (d := 2) (Or.inr ⟨by omega, by omega⟩) (by omega)).trans ((sIn_n hf4 (by omega)).trans hf182), by show st185 0 45 = _; rw [est185, up2_same]⟩)⟩, mB.of ht hP⟩, hS.F ht⟩) hS.2.2 dX12_readSaid_177
      · refine lv_if_ne (tgt := 30) hx hb dX12_readSaid_21 (by decide) (fun cc => absurd (by decide) cc) (fun _ => ?_)
        refine lv_iinc (v := (nI (k85 + 1))) (lv' := [(2, .int (nI (k85 + 1))), (1, .int 0), (0, .ref (ar 0))]) hx hb dX12_readSaid_24 hl (k := 0) rfl (nI_add k85 1) (by decide) rfl (fun ls hl => ?_)
        refine lv_goto (tgt := 10) hx hb dX12_readSaid_27 (by decide) ?_
        exact ih89 (25 - (k85 + 1)) _ _ _ _ (by omega) ⟨(k85 + 1), rfl, by omega, by omega, fun i h1 h2 hz => if h9 : i = k85 then (by omega) else hv88_0 i h1 (by omega) hz, hP, hS, lv_sub hl [0, 1, 2] rfl, rfl⟩
