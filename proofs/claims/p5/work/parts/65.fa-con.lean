set_option maxHeartbeats 4000000 in
set_option maxRecDepth 100000 in
theorem y_X8_isLetter (l : Launch) (dC : Nat → ClassId) (dI : Nat → Nat → Nat) (ad : Nat → Nat) (E : EP) (hEE : EC ad E) (A : Nat → Nat) (C : Nat → ClassId) (nb sz : Nat) (hN : XN A) (st : Nat → Nat → Int32) (sl : Nat → Nat → Int64) (so : Nat → XR) (va : Int32) (hI : XI st) : Met l yX8_isLetter wsX8_isLetter ({ frames := 0, cells := 0, slots := 0, locals := 0 }) (va_Pc [.int va] (xPre E dC dI A C nb sz st sl so)) (va_Qi (fun (r : Int32) (x : XT) => x = (st, sl, so) ∧ ((r = 1 ∧ 97 ≤ va ∧ va ≤ 122) ∨ (r = 0 ∧ ¬ (97 ≤ va ∧ va ≤ 122)))) (xB dC dI A C nb) (XA A sz)) 0 0 (XA A sz) := by
  refine Met.ofW (cc := cX8_isLetter) (maxL := 1) (ret := (some .boolean)) (by decide) rfl ?_
  intro p9 e s m9 args below meth c9 s₁ B9 hml hv
  obtain ⟨rfl, hsz, hP, hK, hE⟩ := hv
  have hx := B9.exec
  have hb := B9.bytes
  have hr := B9.returns
  have hts := atoms_spec (ws := wsX8_isLetter) B9.pre
  have hown : s.vm.findClass RX8 = some m9.cls := findClass_of_methodNamed B9.named
  subst hsz
  have hEv := hEE.1 _ _ _ hE
  have hS : va_S (XA A s.heap.size) s.heap s.heap [] := va_S.rf
  have hG : XG [1, 2, 3, 4, 5, 6, 7, 8, 9, 10, 11, 12, 13, 14, 15] st st := XG.rf hI
  have hl := lv_entry ([.int va]) (n := 1) (Nat.le_of_ble_eq_true rfl)
  rw [lg_entry_eq]
  generalize (lg_sl ([.int va]) ++ List.replicate (1 - (lg_sl ([.int va])).length) Slot.unset).toArray = ls at hl ⊢
  have hl : lv_has ls 1 [(0, .int va)] := hl
  refine lv_iload_n hx hb dX8_isLetter_0 rfl (lv_at hl 0 rfl) ?_
  refine lv_bipush (v := 97) hx hb dX8_isLetter_1 (by decide) ?_
  refine lv_icmp_lt (tgt := 16) hx hb dX8_isLetter_3 (by decide) (fun c1 => ?_) (fun c1 => ?_)
  · refine lv_iconst (v := 0) hx hb dX8_isLetter_16 (by decide) ?_
    exact W.zret (v := 0) hx hb hr rfl (fun t ht hW => ⟨⟨0, (st, sl, so), rfl, ⟨rfl, Or.inr (⟨rfl, fun hh => absurd c1 (Int32.not_lt.mpr hh.1)⟩)⟩, xB.of ht hP⟩, hS.F ht⟩) hS.2.2 dX8_isLetter_17
  · refine lv_iload_n hx hb dX8_isLetter_6 rfl (lv_at hl 0 rfl) ?_
    refine lv_bipush (v := 122) hx hb dX8_isLetter_7 (by decide) ?_
    refine lv_icmp_gt (tgt := 16) hx hb dX8_isLetter_9 (by decide) (fun c2 => ?_) (fun c2 => ?_)
    · refine lv_iconst (v := 0) hx hb dX8_isLetter_16 (by decide) ?_
      exact W.zret (v := 0) hx hb hr rfl (fun t ht hW => ⟨⟨0, (st, sl, so), rfl, ⟨rfl, Or.inr (⟨rfl, fun hh => absurd c2 (Int32.not_lt.mpr hh.2)⟩)⟩, xB.of ht hP⟩, hS.F ht⟩) hS.2.2 dX8_isLetter_17
    · refine lv_iconst (v := 1) hx hb dX8_isLetter_12 (by decide) ?_
      refine lv_goto (tgt := 17) hx hb dX8_isLetter_13 (by decide) ?_
      exact W.zret (v := 1) hx hb hr rfl (fun t ht hW => ⟨⟨1, (st, sl, so), rfl, ⟨rfl, Or.inl (⟨rfl, Int32.not_lt.mp c1, Int32.not_lt.mp c2⟩)⟩, xB.of ht hP⟩, hS.F ht⟩) hS.2.2 dX8_isLetter_17
set_option maxHeartbeats 4000000 in
set_option maxRecDepth 100000 in
theorem y_X8_isDigit (l : Launch) (dC : Nat → ClassId) (dI : Nat → Nat → Nat) (ad : Nat → Nat) (E : EP) (hEE : EC ad E) (A : Nat → Nat) (C : Nat → ClassId) (nb sz : Nat) (hN : XN A) (st : Nat → Nat → Int32) (sl : Nat → Nat → Int64) (so : Nat → XR) (va : Int32) (hI : XI st) : Met l yX8_isDigit wsX8_isDigit ({ frames := 0, cells := 0, slots := 0, locals := 0 }) (va_Pc [.int va] (xPre E dC dI A C nb sz st sl so)) (va_Qi (fun (r : Int32) (x : XT) => x = (st, sl, so) ∧ ((r = 1 ∧ 48 ≤ va ∧ va ≤ 57) ∨ (r = 0 ∧ ¬ (48 ≤ va ∧ va ≤ 57)))) (xB dC dI A C nb) (XA A sz)) 0 0 (XA A sz) := by
  refine Met.ofW (cc := cX8_isDigit) (maxL := 1) (ret := (some .boolean)) (by decide) rfl ?_
  intro p9 e s m9 args below meth c9 s₁ B9 hml hv
  obtain ⟨rfl, hsz, hP, hK, hE⟩ := hv
  have hx := B9.exec
  have hb := B9.bytes
  have hr := B9.returns
  have hts := atoms_spec (ws := wsX8_isDigit) B9.pre
  have hown : s.vm.findClass RX8 = some m9.cls := findClass_of_methodNamed B9.named
  subst hsz
  have hEv := hEE.1 _ _ _ hE
  have hS : va_S (XA A s.heap.size) s.heap s.heap [] := va_S.rf
  have hG : XG [1, 2, 3, 4, 5, 6, 7, 8, 9, 10, 11, 12, 13, 14, 15] st st := XG.rf hI
  have hl := lv_entry ([.int va]) (n := 1) (Nat.le_of_ble_eq_true rfl)
  rw [lg_entry_eq]
  generalize (lg_sl ([.int va]) ++ List.replicate (1 - (lg_sl ([.int va])).length) Slot.unset).toArray = ls at hl ⊢
  have hl : lv_has ls 1 [(0, .int va)] := hl
  refine lv_iload_n hx hb dX8_isDigit_0 rfl (lv_at hl 0 rfl) ?_
  refine lv_bipush (v := 48) hx hb dX8_isDigit_1 (by decide) ?_
  refine lv_icmp_lt (tgt := 16) hx hb dX8_isDigit_3 (by decide) (fun c1 => ?_) (fun c1 => ?_)
  · refine lv_iconst (v := 0) hx hb dX8_isDigit_16 (by decide) ?_
    exact W.zret (v := 0) hx hb hr rfl (fun t ht hW => ⟨⟨0, (st, sl, so), rfl, ⟨rfl, Or.inr (⟨rfl, fun hh => absurd c1 (Int32.not_lt.mpr hh.1)⟩)⟩, xB.of ht hP⟩, hS.F ht⟩) hS.2.2 dX8_isDigit_17
  · refine lv_iload_n hx hb dX8_isDigit_6 rfl (lv_at hl 0 rfl) ?_
    refine lv_bipush (v := 57) hx hb dX8_isDigit_7 (by decide) ?_
    refine lv_icmp_gt (tgt := 16) hx hb dX8_isDigit_9 (by decide) (fun c2 => ?_) (fun c2 => ?_)
    · refine lv_iconst (v := 0) hx hb dX8_isDigit_16 (by decide) ?_
      exact W.zret (v := 0) hx hb hr rfl (fun t ht hW => ⟨⟨0, (st, sl, so), rfl, ⟨rfl, Or.inr (⟨rfl, fun hh => absurd c2 (Int32.not_lt.mpr hh.2)⟩)⟩, xB.of ht hP⟩, hS.F ht⟩) hS.2.2 dX8_isDigit_17
    · refine lv_iconst (v := 1) hx hb dX8_isDigit_12 (by decide) ?_
      refine lv_goto (tgt := 17) hx hb dX8_isDigit_13 (by decide) ?_
      exact W.zret (v := 1) hx hb hr rfl (fun t ht hW => ⟨⟨1, (st, sl, so), rfl, ⟨rfl, Or.inl (⟨rfl, Int32.not_lt.mp c1, Int32.not_lt.mp c2⟩)⟩, xB.of ht hP⟩, hS.F ht⟩) hS.2.2 dX8_isDigit_17
set_option maxHeartbeats 4000000 in
set_option maxRecDepth 100000 in
theorem y_X8_isMark (l : Launch) (dC : Nat → ClassId) (dI : Nat → Nat → Nat) (ad : Nat → Nat) (E : EP) (hEE : EC ad E) (A : Nat → Nat) (C : Nat → ClassId) (nb sz : Nat) (hN : XN A) (st : Nat → Nat → Int32) (sl : Nat → Nat → Int64) (so : Nat → XR) (va : Int32) (hI : XI st) : Met l yX8_isMark wsX8_isMark ({ frames := 0, cells := 0, slots := 0, locals := 0 }) (va_Pc [.int va] (xPre E dC dI A C nb sz st sl so)) (va_Qi (fun (r : Int32) (x : XT) => x = (st, sl, so) ∧ ((r = 1 ∧ (va = 59 ∨ va = 60 ∨ va = 61 ∨ va = 62 ∨ va = 40 ∨ va = 41)) ∨ (r = 0 ∧ (¬ (va = 59 ∨ va = 60 ∨ va = 61 ∨ va = 62 ∨ va = 40 ∨ va = 41))))) (xB dC dI A C nb) (XA A sz)) 0 0 (XA A sz) := by
  refine Met.ofW (cc := cX8_isMark) (maxL := 1) (ret := (some .boolean)) (by decide) rfl ?_
  intro p9 e s m9 args below meth c9 s₁ B9 hml hv
  obtain ⟨rfl, hsz, hP, hK, hE⟩ := hv
  have hx := B9.exec
  have hb := B9.bytes
  have hr := B9.returns
  have hts := atoms_spec (ws := wsX8_isMark) B9.pre
  have hown : s.vm.findClass RX8 = some m9.cls := findClass_of_methodNamed B9.named
  subst hsz
  have hEv := hEE.1 _ _ _ hE
  have hS : va_S (XA A s.heap.size) s.heap s.heap [] := va_S.rf
  have hG : XG [1, 2, 3, 4, 5, 6, 7, 8, 9, 10, 11, 12, 13, 14, 15] st st := XG.rf hI
  have hl := lv_entry ([.int va]) (n := 1) (Nat.le_of_ble_eq_true rfl)
  rw [lg_entry_eq]
  generalize (lg_sl ([.int va]) ++ List.replicate (1 - (lg_sl ([.int va])).length) Slot.unset).toArray = ls at hl ⊢
  have hl : lv_has ls 1 [(0, .int va)] := hl
  refine lv_iload_n hx hb dX8_isMark_0 rfl (lv_at hl 0 rfl) ?_
  refine lv_bipush (v := 59) hx hb dX8_isMark_1 (by decide) ?_
  refine lv_icmp_eq (tgt := 36) hx hb dX8_isMark_3 (by decide) (fun c1 => ?_) (fun c1 => ?_)
  · refine lv_iconst (v := 1) hx hb dX8_isMark_36 (by decide) ?_
    refine lv_goto (tgt := 41) hx hb dX8_isMark_37 (by decide) ?_
    exact W.zret (v := 1) hx hb hr rfl (fun t ht hW => ⟨⟨1, (st, sl, so), rfl, ⟨rfl, Or.inl (⟨rfl, Or.inl (c1)⟩)⟩, xB.of ht hP⟩, hS.F ht⟩) hS.2.2 dX8_isMark_41
  · refine lv_iload_n hx hb dX8_isMark_6 rfl (lv_at hl 0 rfl) ?_
    refine lv_bipush (v := 60) hx hb dX8_isMark_7 (by decide) ?_
    refine lv_icmp_eq (tgt := 36) hx hb dX8_isMark_9 (by decide) (fun c2 => ?_) (fun c2 => ?_)
    · refine lv_iconst (v := 1) hx hb dX8_isMark_36 (by decide) ?_
      refine lv_goto (tgt := 41) hx hb dX8_isMark_37 (by decide) ?_
      exact W.zret (v := 1) hx hb hr rfl (fun t ht hW => ⟨⟨1, (st, sl, so), rfl, ⟨rfl, Or.inl (⟨rfl, Or.inr (Or.inl (c2))⟩)⟩, xB.of ht hP⟩, hS.F ht⟩) hS.2.2 dX8_isMark_41
    · refine lv_iload_n hx hb dX8_isMark_12 rfl (lv_at hl 0 rfl) ?_
      refine lv_bipush (v := 61) hx hb dX8_isMark_13 (by decide) ?_
      refine lv_icmp_eq (tgt := 36) hx hb dX8_isMark_15 (by decide) (fun c3 => ?_) (fun c3 => ?_)
      · refine lv_iconst (v := 1) hx hb dX8_isMark_36 (by decide) ?_
        refine lv_goto (tgt := 41) hx hb dX8_isMark_37 (by decide) ?_
        exact W.zret (v := 1) hx hb hr rfl (fun t ht hW => ⟨⟨1, (st, sl, so), rfl, ⟨rfl, Or.inl (⟨rfl, Or.inr (Or.inr (Or.inl (c3)))⟩)⟩, xB.of ht hP⟩, hS.F ht⟩) hS.2.2 dX8_isMark_41
      · refine lv_iload_n hx hb dX8_isMark_18 rfl (lv_at hl 0 rfl) ?_
        refine lv_bipush (v := 62) hx hb dX8_isMark_19 (by decide) ?_
        refine lv_icmp_eq (tgt := 36) hx hb dX8_isMark_21 (by decide) (fun c4 => ?_) (fun c4 => ?_)
        · refine lv_iconst (v := 1) hx hb dX8_isMark_36 (by decide) ?_
          refine lv_goto (tgt := 41) hx hb dX8_isMark_37 (by decide) ?_
          exact W.zret (v := 1) hx hb hr rfl (fun t ht hW => ⟨⟨1, (st, sl, so), rfl, ⟨rfl, Or.inl (⟨rfl, Or.inr (Or.inr (Or.inr (Or.inl (c4))))⟩)⟩, xB.of ht hP⟩, hS.F ht⟩) hS.2.2 dX8_isMark_41
        · refine lv_iload_n hx hb dX8_isMark_24 rfl (lv_at hl 0 rfl) ?_
          refine lv_bipush (v := 40) hx hb dX8_isMark_25 (by decide) ?_
          refine lv_icmp_eq (tgt := 36) hx hb dX8_isMark_27 (by decide) (fun c5 => ?_) (fun c5 => ?_)
          · refine lv_iconst (v := 1) hx hb dX8_isMark_36 (by decide) ?_
            refine lv_goto (tgt := 41) hx hb dX8_isMark_37 (by decide) ?_
            exact W.zret (v := 1) hx hb hr rfl (fun t ht hW => ⟨⟨1, (st, sl, so), rfl, ⟨rfl, Or.inl (⟨rfl, Or.inr (Or.inr (Or.inr (Or.inr (Or.inl (c5)))))⟩)⟩, xB.of ht hP⟩, hS.F ht⟩) hS.2.2 dX8_isMark_41
          · refine lv_iload_n hx hb dX8_isMark_30 rfl (lv_at hl 0 rfl) ?_
            refine lv_bipush (v := 41) hx hb dX8_isMark_31 (by decide) ?_
            refine lv_icmp_ne (tgt := 40) hx hb dX8_isMark_33 (by decide) (fun c6 => ?_) (fun c6 => ?_)
            · refine lv_iconst (v := 0) hx hb dX8_isMark_40 (by decide) ?_
              exact W.zret (v := 0) hx hb hr rfl (fun t ht hW => ⟨⟨0, (st, sl, so), rfl, ⟨rfl, Or.inr (⟨rfl, fun hh => by rcases hh with h9 | h9 | h9 | h9 | h9 | h9 <;> first | exact c1 h9 | exact c2 h9 | exact c3 h9 | exact c4 h9 | exact c5 h9 | exact c6 h9⟩)⟩, xB.of ht hP⟩, hS.F ht⟩) hS.2.2 dX8_isMark_41
            · refine lv_iconst (v := 1) hx hb dX8_isMark_36 (by decide) ?_
              refine lv_goto (tgt := 41) hx hb dX8_isMark_37 (by decide) ?_
              exact W.zret (v := 1) hx hb hr rfl (fun t ht hW => ⟨⟨1, (st, sl, so), rfl, ⟨rfl, Or.inl (⟨rfl, Or.inr (Or.inr (Or.inr (Or.inr (Or.inr (c6)))))⟩)⟩, xB.of ht hP⟩, hS.F ht⟩) hS.2.2 dX8_isMark_41
set_option maxHeartbeats 4000000 in
set_option maxRecDepth 100000 in
theorem y_X8_stepOverRun (l : Launch) (dC : Nat → ClassId) (dI : Nat → Nat → Nat) (ad : Nat → Nat) (E : EP) (hEE : EC ad E) (A : Nat → Nat) (C : Nat → ClassId) (nb sz : Nat) (hN : XN A) (st : Nat → Nat → Int32) (sl : Nat → Nat → Int64) (so : Nat → XR) (B : Nat → Nat) (g m : Nat) (q : Nat) (hI : XI st) (hOI : OI ad so) (hB : CBt B g m st) (hq3 : st 1 3 = nI q) (hq5 : st 1 5 = nI q) (hqg : q < g) : Met l yX8_stepOverRun wsX8_stepOverRun ({ frames := 1, cells := 0, slots := 0, locals := 20 }) (va_Pc [.ref (A 1)] (xPre E dC dI A C nb sz st sl so)) (va_Qv (fun (x : XT) => XG [1, 2, 3, 4, 5, 6, 7, 8, 9, 10, 11, 12, 13, 14, 15] st x.1 ∧ OG ad [2, 3, 4] so x.2.2 ∧ FX 1 st sl so x.1 x.2.1 x.2.2 ∧ (∃ k : Nat, x.1 1 3 = nI (rne B g (941 - q) q) ∧ x.1 1 5 = nI q ∧ x.1 1 4 = nI k ∧ ((k = 0 ∧ cnL B q ((rne B g (941 - q) q) - q) = ((rne B g (941 - q) q) - q) ∧ ((rne B g (941 - q) q) - q) ≤ 7) ∨ (k = 1 ∧ cnL B q ((rne B g (941 - q) q) - q) = 0 ∧ ((rne B g (941 - q) q) - q) ≤ 3) ∨ (k = 4 ∧ ¬ (cnL B q ((rne B g (941 - q) q) - q) = ((rne B g (941 - q) q) - q) ∧ ((rne B g (941 - q) q) - q) ≤ 7) ∧ ¬ (cnL B q ((rne B g (941 - q) q) - q) = 0 ∧ ((rne B g (941 - q) q) - q) ≤ 3))) ∧ (k = 1 → x.1 1 6 = nI (nmb B q ((rne B g (941 - q) q) - q))) ∧ (k = 0 → x.2.1 1 8 = lN (cd5 B q ((rne B g (941 - q) q) - q))) ∧ x.2.2 1 7 = so 1 7)) (xB dC dI A C nb) (XA A sz)) 0 0 (XA A sz) := by
  refine Met.ofW (cc := cX8_stepOverRun) (maxL := 3) (ret := none) (by decide) rfl ?_
  intro p9 e s m9 args below meth c9 s₁ B9 hml hv
  obtain ⟨rfl, hsz, hP, hK, hE⟩ := hv
  have hx := B9.exec
  have hb := B9.bytes
  have hr := B9.returns
  have hts := atoms_spec (ws := wsX8_stepOverRun) B9.pre
  have hown : s.vm.findClass RX8 = some m9.cls := findClass_of_methodNamed B9.named
  subst hsz
  have hEv := hEE.1 _ _ _ hE
  have hS : va_S (XA A s.heap.size) s.heap s.heap [] := va_S.rf
  have hG : XG [1, 2, 3, 4, 5, 6, 7, 8, 9, 10, 11, 12, 13, 14, 15] st st := XG.rf hI
  have hO : OG ad [2, 3, 4] so so := OG.rf hOI
  have hl := lv_entry ([.ref (A 1)]) (n := 3) (Nat.le_of_ble_eq_true rfl)
  rw [lg_entry_eq]
  generalize (lg_sl ([.ref (A 1)]) ++ List.replicate (3 - (lg_sl ([.ref (A 1)])).length) Slot.unset).toArray = ls at hl ⊢
  have hl : lv_has ls 3 [(0, .ref (A 1))] := hl
  have hB1 := hB.2.2.1
  have hB2 := hB.2.2.2.1
  have hF : FX 1 st sl so st sl so := FX.rf
  refine lv_iconst (v := 0) hx hb dX8_stepOverRun_0 (by decide) ?_
  refine lv_istore_n (lv' := [(1, .int 0), (0, .ref (A 1))]) hx hb dX8_stepOverRun_1 rfl hl (by decide) rfl (fun ls hl => ?_)
  refine lv_aload_n hx hb dX8_stepOverRun_2 rfl (lv_at hl 1 rfl) ?_
  refine lv_lconst (v := 0) hx hb dX8_stepOverRun_3 (by decide) ?_
  refine va_put (D := (dC, dI)) (ci := 9) (v := .long 0) (ty := .long) (C := RX8) (T := TX8) (N := 15) hx hb hts ii_X8_stepOverRun_X8 tyX8 tyX8_ok nmX8 hown hK hP (xD hN _ _ _ _ _ _) hS 1 (xw_is (r := 1) (by omega) (xc_fix (r := 1) (by omega))) rfl 8 (by decide) (hts _ mm_X8_stepOverRun_1) (fun _ hh => hh) rfl (by decide +kernel) rfl rfl (Nat.le_of_ble_eq_true rfl) dX8_stepOverRun_4 (fun H locs hP _ hS => ?_)
  have hP : va_P (dC, dI) vwCl (xw A C nb st (upL sl 1 8 0) so) H := by rw [← xsetL (r := 1) (k := 8) (v := 0) (xc_fix (r := 1) (by omega))]; exact hP
  obtain ⟨sl1, esl1⟩ : ∃ y, y = upL sl 1 8 0 := ⟨_, rfl⟩
  rw [← esl1] at hP
  have hF : FX 1 st sl so st sl1 so := by rw [esl1]; exact hF.upL (by decide)
  refine lv_aload_n hx hb dX8_stepOverRun_7 rfl (lv_at hl 1 rfl) ?_
  refine lv_iconst (v := 0) hx hb dX8_stepOverRun_8 (by decide) ?_
  refine va_put (D := (dC, dI)) (ci := 9) (v := .int 0) (ty := .int) (C := RX8) (T := TX8) (N := 15) hx hb hts ii_X8_stepOverRun_X8 tyX8 tyX8_ok nmX8 hown hK hP (xD hN _ _ _ _ _ _) hS 1 (xw_is (r := 1) (by omega) (xc_fix (r := 1) (by omega))) rfl 6 (by decide) (hts _ mm_X8_stepOverRun_2) (fun _ hh => hh) rfl (by decide +kernel) rfl rfl (Nat.le_of_ble_eq_true rfl) dX8_stepOverRun_9 (fun H locs hP _ hS => ?_)
  have hP : va_P (dC, dI) vwCl (xw A C nb (up2 st 1 6 0) sl1 so) H := by rw [← xset (r := 1) (k := 6) (v := 0) (xc_fix (r := 1) (by omega))]; exact hP
  obtain ⟨st2, est2⟩ : ∃ y, y = up2 st 1 6 0 := ⟨_, rfl⟩
  have hG : XG [1, 2, 3, 4, 5, 6, 7, 8, 9, 10, 11, 12, 13, 14, 15] st st2 := by rw [est2]; exact hG.up (xz (r := 1) (k := 6) (by decide : xrg 1 6 = 0)) (xpn (c := 0) (by decide : xcl 1 6 = 0) (by decide))
  rw [← est2] at hP
  have hF : FX 1 st sl so st2 sl1 so := by rw [est2]; exact hF.up (by decide)
  refine zz_wf (fun n stk H locs ls => ∃ k3 : Nat, ∃ st4 : Nat → Nat → Int32, ∃ sl5 : Nat → Nat → Int64, ∃ so6 : Nat → XR, ∃ u7 : Nat, n = 941 - u7 ∧ 0 ≤ k3 ∧ k3 < 942 ∧ u7 < 941 ∧ st4 1 3 = nI u7 ∧ q ≤ u7 ∧ u7 ≤ g ∧ rne B g (941 - u7) u7 = (rne B g (941 - q) q) ∧ k3 = cnL B q (u7 - q) ∧ (cnL B q (u7 - q) = (u7 - q) ∧ (u7 - q) ≤ 7 → sl5 1 8 = lN (cd5 B q (u7 - q))) ∧ (cnL B q (u7 - q) = 0 ∧ (u7 - q) ≤ 3 → st4 1 6 = nI (nmb B q (u7 - q))) ∧ st4 1 5 = nI q ∧ so6 1 7 = so 1 7 ∧ FX 1 st sl so st4 sl5 so6 ∧ va_P (dC, dI) vwCl (xw A C nb st4 sl5 so6) H ∧ XG [1, 2, 3, 4, 5, 6, 7, 8, 9, 10, 11, 12, 13, 14, 15] st st4 ∧ OG ad [2, 3, 4] so so6 ∧ va_S (XA A s.heap.size) s.heap H locs ∧ lv_has ls 3 [(1, .int (nI k3)), (0, .ref (A 1))] ∧ stk = []) ?_ (941 - q) _ _ _ _ ⟨0, st2, sl1, so, q, rfl, by omega, by omega, by omega, by rw [est2, up2_ne (r := 1) (k := 6) (a := 1) (j := 3) _ _ (by omega), hq3], by omega, by omega, rfl, by rw [Nat.sub_self]; rfl, fun _ => by rw [Nat.sub_self, esl1, upL_same]; rfl, fun _ => by rw [Nat.sub_self]; show st2 1 6 = _; rw [est2, up2_same]; rfl, (by show st2 1 5 = _; rw [est2, up2_ne (r := 1) (k := 6) (a := 1) (j := 5) _ _ (by omega), hq5]), rfl, hF, hP, hG, hO, hS, lv_sub hl [0, 1] rfl, rfl⟩
  rintro nn stk H locs ls ⟨k3, st4, sl5, so6, u7, hm19, hv8_0, hv9_1, hv10_2, eu7, hv11_0, hv12_1, hv13_2, hv14_3, hv15_4, hv16_5, hv17_6, hv18_7, hv19_8, hP, hG, hO, hS, hl, rfl⟩ ih20
  have hF := hv19_8
  have hc8 := cnL_le (B := B) (q := q) (u7 - q)
  refine lv_aload_n hx hb dX8_stepOverRun_12 rfl (lv_at hl 1 rfl) ?_
  refine va_get (D := (dC, dI)) (ci := 9) (v := .int (st4 1 3)) (C := RX8) (T := TX8) (N := 15) hx hb hts ii_X8_stepOverRun_X8 hown hK hP 1 (xw_is (r := 1) (by omega) (xc_fix (r := 1) (by omega))) rfl 3 (by decide) (hts _ mm_X8_stepOverRun_3) (fun _ hh => hh) rfl dX8_stepOverRun_13 ?_
  refine zz_top (v := (nI u7)) (by show st4 1 3 = _; rw [eu7]) ?_
  refine lv_aload_n hx hb dX8_stepOverRun_16 rfl (lv_at hl 1 rfl) ?_
  refine va_get (D := (dC, dI)) (ci := 9) (v := .int (st4 1 1)) (C := RX8) (T := TX8) (N := 15) hx hb hts ii_X8_stepOverRun_X8 hown hK hP 1 (xw_is (r := 1) (by omega) (xc_fix (r := 1) (by omega))) rfl 1 (by decide) (hts _ mm_X8_stepOverRun_4) (fun _ hh => hh) rfl dX8_stepOverRun_17 ?_
  refine zz_top (v := (nI g)) (by show st4 1 1 = _; rw [(CBt.fr hB hF).1]) ?_
  refine lv_icmp_ge (tgt := 123) hx hb dX8_stepOverRun_20 (by decide) (fun c1 => ?_) (fun c1 => ?_)
  · have c1 : g ≤ u7 := (nI_leI (a := g) (b := u7) (by omega) (by omega)).mp c1
    refine lv_aload_n hx hb dX8_stepOverRun_123 rfl (lv_at hl 1 rfl) ?_
    refine va_get (D := (dC, dI)) (ci := 9) (v := .int (st4 1 3)) (C := RX8) (T := TX8) (N := 15) hx hb hts ii_X8_stepOverRun_X8 hown hK hP 1 (xw_is (r := 1) (by omega) (xc_fix (r := 1) (by omega))) rfl 3 (by decide) (hts _ mm_X8_stepOverRun_3) (fun _ hh => hh) rfl dX8_stepOverRun_124 ?_
    refine zz_top (v := (nI u7)) (by show st4 1 3 = _; rw [eu7]) ?_
    refine lv_aload_n hx hb dX8_stepOverRun_127 rfl (lv_at hl 1 rfl) ?_
    refine va_get (D := (dC, dI)) (ci := 9) (v := .int (st4 1 5)) (C := RX8) (T := TX8) (N := 15) hx hb hts ii_X8_stepOverRun_X8 hown hK hP 1 (xw_is (r := 1) (by omega) (xc_fix (r := 1) (by omega))) rfl 5 (by decide) (hts _ mm_X8_stepOverRun_6) (fun _ hh => hh) rfl dX8_stepOverRun_128 ?_
    refine zz_top (v := (nI q)) (by show st4 1 5 = _; rw [hv17_6]) ?_
    refine lv_isub hx hb dX8_stepOverRun_131 ?_
    refine zz_top (v := nI (u7 - q)) (nI_subN (a := u7) (b := q) (by omega) (by omega)) ?_
    refine lv_istore_n (lv' := [(2, .int (nI (u7 - q))), (1, .int (nI k3)), (0, .ref (A 1))]) hx hb dX8_stepOverRun_132 rfl hl (by decide) rfl (fun ls hl => ?_)
    refine lv_iload_n hx hb dX8_stepOverRun_133 rfl (lv_at hl 1 rfl) ?_
    refine lv_iload_n hx hb dX8_stepOverRun_134 rfl (lv_at hl 0 rfl) ?_
    refine lv_icmp_ne (tgt := 156) hx hb dX8_stepOverRun_135 (by decide) (fun c2 => ?_) (fun c2 => ?_)
    · have c2 : ¬ k3 = (u7 - q) := fun hh => c2 ((nI_eq (a := k3) (b := (u7 - q)) (by omega) (by omega)).mpr hh)
      refine lv_aload_n hx hb dX8_stepOverRun_156 rfl (lv_at hl 2 rfl) ?_
      refine lv_iload_n hx hb dX8_stepOverRun_157 rfl (lv_at hl 1 rfl) ?_
      refine lv_if_ne (tgt := 170) hx hb dX8_stepOverRun_158 (by decide) (fun c3 => ?_) (fun c3 => ?_)
      · have c3 : ¬ k3 = 0 := fun hh => c3 ((nI_eq (a := k3) (b := 0) (by omega) (by omega)).mpr hh)
        refine lv_iconst (v := 4) hx hb dX8_stepOverRun_170 (by decide) ?_
        refine va_put (D := (dC, dI)) (ci := 9) (v := .int 4) (ty := .int) (C := RX8) (T := TX8) (N := 15) hx hb hts ii_X8_stepOverRun_X8 tyX8 tyX8_ok nmX8 hown hK hP (xD hN _ _ _ _ _ _) hS 1 (xw_is (r := 1) (by omega) (xc_fix (r := 1) (by omega))) rfl 4 (by decide) (hts _ mm_X8_stepOverRun_7) (fun _ hh => hh) rfl (by decide +kernel) rfl rfl (Nat.le_of_ble_eq_true rfl) dX8_stepOverRun_171 (fun H locs hP _ hS => ?_)
        have hP : va_P (dC, dI) vwCl (xw A C nb (up2 st4 1 4 4) sl5 so6) H := by rw [← xset (r := 1) (k := 4) (v := 4) (xc_fix (r := 1) (by omega))]; exact hP
        obtain ⟨st21, est21⟩ : ∃ y, y = up2 st4 1 4 4 := ⟨_, rfl⟩
        have hG : XG [1, 2, 3, 4, 5, 6, 7, 8, 9, 10, 11, 12, 13, 14, 15] st st21 := by rw [est21]; exact hG.up (xz (r := 1) (k := 4) (by decide : xrg 1 4 = 0)) (xpn (c := 0) (by decide : xcl 1 4 = 0) (by decide))
        rw [← est21] at hP
        have hF : FX 1 st sl so st21 sl5 so6 := by rw [est21]; exact hF.up (by decide)
        have he9 : (rne B g (941 - q) q) = u7 := hv13_2.symm.trans (rne_n (fun hh => by have h1 := hh.1; have h2 : (97 ≤ B u7 ∧ B u7 ≤ 122) ∨ (48 ≤ B u7 ∧ B u7 ≤ 57) := hh.2; omega))
        exact W.vret hx hb hr (fun t ht hW => ⟨⟨(st21, sl5, so6), rfl, ⟨hG, hO, hF, ⟨4, by rw [he9]; exact (by show st21 1 3 = _; rw [est21, up2_ne (r := 1) (k := 4) (a := 1) (j := 3) _ _ (by omega), eu7]), (by show st21 1 5 = _; rw [est21, up2_ne (r := 1) (k := 4) (a := 1) (j := 5) _ _ (by omega), hv17_6]), (by show st21 1 4 = _; rw [est21, up2_same]; rfl), by rw [he9]; omega, fun hh => absurd hh (by omega), fun hh => absurd hh (by omega), hv18_7⟩⟩, xB.of ht hP⟩, hS.F ht⟩) hS.2.2 dX8_stepOverRun_174
      · have c3 : k3 = 0 := (nI_eq (a := k3) (b := 0) (by omega) (by omega)).mp c3
        refine lv_iload_n hx hb dX8_stepOverRun_161 rfl (lv_at hl 0 rfl) ?_
        refine lv_iconst (v := 3) hx hb dX8_stepOverRun_162 (by decide) ?_
        refine lv_icmp_gt (tgt := 170) hx hb dX8_stepOverRun_163 (by decide) (fun c4 => ?_) (fun c4 => ?_)
        · have c4 : 3 < (u7 - q) := (nI_ltI (a := 3) (b := (u7 - q)) (by omega) (by omega)).mp c4
          refine lv_iconst (v := 4) hx hb dX8_stepOverRun_170 (by decide) ?_
          refine va_put (D := (dC, dI)) (ci := 9) (v := .int 4) (ty := .int) (C := RX8) (T := TX8) (N := 15) hx hb hts ii_X8_stepOverRun_X8 tyX8 tyX8_ok nmX8 hown hK hP (xD hN _ _ _ _ _ _) hS 1 (xw_is (r := 1) (by omega) (xc_fix (r := 1) (by omega))) rfl 4 (by decide) (hts _ mm_X8_stepOverRun_7) (fun _ hh => hh) rfl (by decide +kernel) rfl rfl (Nat.le_of_ble_eq_true rfl) dX8_stepOverRun_171 (fun H locs hP _ hS => ?_)
          have hP : va_P (dC, dI) vwCl (xw A C nb (up2 st4 1 4 4) sl5 so6) H := by rw [← xset (r := 1) (k := 4) (v := 4) (xc_fix (r := 1) (by omega))]; exact hP
          obtain ⟨st22, est22⟩ : ∃ y, y = up2 st4 1 4 4 := ⟨_, rfl⟩
          have hG : XG [1, 2, 3, 4, 5, 6, 7, 8, 9, 10, 11, 12, 13, 14, 15] st st22 := by rw [est22]; exact hG.up (xz (r := 1) (k := 4) (by decide : xrg 1 4 = 0)) (xpn (c := 0) (by decide : xcl 1 4 = 0) (by decide))
          rw [← est22] at hP
          have hF : FX 1 st sl so st22 sl5 so6 := by rw [est22]; exact hF.up (by decide)
          have he9 : (rne B g (941 - q) q) = u7 := hv13_2.symm.trans (rne_n (fun hh => by have h1 := hh.1; have h2 : (97 ≤ B u7 ∧ B u7 ≤ 122) ∨ (48 ≤ B u7 ∧ B u7 ≤ 57) := hh.2; omega))
          exact W.vret hx hb hr (fun t ht hW => ⟨⟨(st22, sl5, so6), rfl, ⟨hG, hO, hF, ⟨4, by rw [he9]; exact (by show st22 1 3 = _; rw [est22, up2_ne (r := 1) (k := 4) (a := 1) (j := 3) _ _ (by omega), eu7]), (by show st22 1 5 = _; rw [est22, up2_ne (r := 1) (k := 4) (a := 1) (j := 5) _ _ (by omega), hv17_6]), (by show st22 1 4 = _; rw [est22, up2_same]; rfl), by rw [he9]; omega, fun hh => absurd hh (by omega), fun hh => absurd hh (by omega), hv18_7⟩⟩, xB.of ht hP⟩, hS.F ht⟩) hS.2.2 dX8_stepOverRun_174
        · have c4 : ¬ 3 < (u7 - q) := fun hh => c4 ((nI_ltI (a := 3) (b := (u7 - q)) (by omega) (by omega)).mpr hh)
          refine lv_iconst (v := 1) hx hb dX8_stepOverRun_166 (by decide) ?_
          refine lv_goto (tgt := 171) hx hb dX8_stepOverRun_167 (by decide) ?_
          refine va_put (D := (dC, dI)) (ci := 9) (v := .int 1) (ty := .int) (C := RX8) (T := TX8) (N := 15) hx hb hts ii_X8_stepOverRun_X8 tyX8 tyX8_ok nmX8 hown hK hP (xD hN _ _ _ _ _ _) hS 1 (xw_is (r := 1) (by omega) (xc_fix (r := 1) (by omega))) rfl 4 (by decide) (hts _ mm_X8_stepOverRun_7) (fun _ hh => hh) rfl (by decide +kernel) rfl rfl (Nat.le_of_ble_eq_true rfl) dX8_stepOverRun_171 (fun H locs hP _ hS => ?_)
          have hP : va_P (dC, dI) vwCl (xw A C nb (up2 st4 1 4 1) sl5 so6) H := by rw [← xset (r := 1) (k := 4) (v := 1) (xc_fix (r := 1) (by omega))]; exact hP
          obtain ⟨st23, est23⟩ : ∃ y, y = up2 st4 1 4 1 := ⟨_, rfl⟩
          have hG : XG [1, 2, 3, 4, 5, 6, 7, 8, 9, 10, 11, 12, 13, 14, 15] st st23 := by rw [est23]; exact hG.up (xz (r := 1) (k := 4) (by decide : xrg 1 4 = 0)) (xpn (c := 0) (by decide : xcl 1 4 = 0) (by decide))
          rw [← est23] at hP
          have hF : FX 1 st sl so st23 sl5 so6 := by rw [est23]; exact hF.up (by decide)
          have he9 : (rne B g (941 - q) q) = u7 := hv13_2.symm.trans (rne_n (fun hh => by have h1 := hh.1; have h2 : (97 ≤ B u7 ∧ B u7 ≤ 122) ∨ (48 ≤ B u7 ∧ B u7 ≤ 57) := hh.2; omega))
          exact W.vret hx hb hr (fun t ht hW => ⟨⟨(st23, sl5, so6), rfl, ⟨hG, hO, hF, ⟨1, by rw [he9]; exact (by show st23 1 3 = _; rw [est23, up2_ne (r := 1) (k := 4) (a := 1) (j := 3) _ _ (by omega), eu7]), (by show st23 1 5 = _; rw [est23, up2_ne (r := 1) (k := 4) (a := 1) (j := 5) _ _ (by omega), hv17_6]), (by show st23 1 4 = _; rw [est23, up2_same]; rfl), by rw [he9]; omega, fun _ => by rw [he9]; show st23 1 6 = _; rw [est23, up2_ne (r := 1) (k := 4) (a := 1) (j := 6) _ _ (by omega)]; exact hv16_5 (by omega), fun hh => absurd hh (by omega), hv18_7⟩⟩, xB.of ht hP⟩, hS.F ht⟩) hS.2.2 dX8_stepOverRun_174
    · have c2 : k3 = (u7 - q) := (nI_eq (a := k3) (b := (u7 - q)) (by omega) (by omega)).mp c2
      refine lv_aload_n hx hb dX8_stepOverRun_138 rfl (lv_at hl 2 rfl) ?_
      refine lv_iload_n hx hb dX8_stepOverRun_139 rfl (lv_at hl 0 rfl) ?_
      refine lv_bipush (v := 7) hx hb dX8_stepOverRun_140 (by decide) ?_
      refine lv_icmp_gt (tgt := 149) hx hb dX8_stepOverRun_142 (by decide) (fun c5 => ?_) (fun c5 => ?_)
      · have c5 : 7 < (u7 - q) := (nI_ltI (a := 7) (b := (u7 - q)) (by omega) (by omega)).mp c5
        refine lv_iconst (v := 4) hx hb dX8_stepOverRun_149 (by decide) ?_
        refine va_put (D := (dC, dI)) (ci := 9) (v := .int 4) (ty := .int) (C := RX8) (T := TX8) (N := 15) hx hb hts ii_X8_stepOverRun_X8 tyX8 tyX8_ok nmX8 hown hK hP (xD hN _ _ _ _ _ _) hS 1 (xw_is (r := 1) (by omega) (xc_fix (r := 1) (by omega))) rfl 4 (by decide) (hts _ mm_X8_stepOverRun_7) (fun _ hh => hh) rfl (by decide +kernel) rfl rfl (Nat.le_of_ble_eq_true rfl) dX8_stepOverRun_150 (fun H locs hP _ hS => ?_)
        have hP : va_P (dC, dI) vwCl (xw A C nb (up2 st4 1 4 4) sl5 so6) H := by rw [← xset (r := 1) (k := 4) (v := 4) (xc_fix (r := 1) (by omega))]; exact hP
        obtain ⟨st24, est24⟩ : ∃ y, y = up2 st4 1 4 4 := ⟨_, rfl⟩
        have hG : XG [1, 2, 3, 4, 5, 6, 7, 8, 9, 10, 11, 12, 13, 14, 15] st st24 := by rw [est24]; exact hG.up (xz (r := 1) (k := 4) (by decide : xrg 1 4 = 0)) (xpn (c := 0) (by decide : xcl 1 4 = 0) (by decide))
        rw [← est24] at hP
        have hF : FX 1 st sl so st24 sl5 so6 := by rw [est24]; exact hF.up (by decide)
        refine lv_goto (tgt := 174) hx hb dX8_stepOverRun_153 (by decide) ?_
        have he9 : (rne B g (941 - q) q) = u7 := hv13_2.symm.trans (rne_n (fun hh => by have h1 := hh.1; have h2 : (97 ≤ B u7 ∧ B u7 ≤ 122) ∨ (48 ≤ B u7 ∧ B u7 ≤ 57) := hh.2; omega))
        exact W.vret hx hb hr (fun t ht hW => ⟨⟨(st24, sl5, so6), rfl, ⟨hG, hO, hF, ⟨4, by rw [he9]; exact (by show st24 1 3 = _; rw [est24, up2_ne (r := 1) (k := 4) (a := 1) (j := 3) _ _ (by omega), eu7]), (by show st24 1 5 = _; rw [est24, up2_ne (r := 1) (k := 4) (a := 1) (j := 5) _ _ (by omega), hv17_6]), (by show st24 1 4 = _; rw [est24, up2_same]; rfl), by rw [he9]; omega, fun hh => absurd hh (by omega), fun hh => absurd hh (by omega), hv18_7⟩⟩, xB.of ht hP⟩, hS.F ht⟩) hS.2.2 dX8_stepOverRun_174
      · have c5 : ¬ 7 < (u7 - q) := fun hh => c5 ((nI_ltI (a := 7) (b := (u7 - q)) (by omega) (by omega)).mpr hh)
        refine lv_iconst (v := 0) hx hb dX8_stepOverRun_145 (by decide) ?_
        refine lv_goto (tgt := 150) hx hb dX8_stepOverRun_146 (by decide) ?_
        refine va_put (D := (dC, dI)) (ci := 9) (v := .int 0) (ty := .int) (C := RX8) (T := TX8) (N := 15) hx hb hts ii_X8_stepOverRun_X8 tyX8 tyX8_ok nmX8 hown hK hP (xD hN _ _ _ _ _ _) hS 1 (xw_is (r := 1) (by omega) (xc_fix (r := 1) (by omega))) rfl 4 (by decide) (hts _ mm_X8_stepOverRun_7) (fun _ hh => hh) rfl (by decide +kernel) rfl rfl (Nat.le_of_ble_eq_true rfl) dX8_stepOverRun_150 (fun H locs hP _ hS => ?_)
        have hP : va_P (dC, dI) vwCl (xw A C nb (up2 st4 1 4 0) sl5 so6) H := by rw [← xset (r := 1) (k := 4) (v := 0) (xc_fix (r := 1) (by omega))]; exact hP
        obtain ⟨st25, est25⟩ : ∃ y, y = up2 st4 1 4 0 := ⟨_, rfl⟩
        have hG : XG [1, 2, 3, 4, 5, 6, 7, 8, 9, 10, 11, 12, 13, 14, 15] st st25 := by rw [est25]; exact hG.up (xz (r := 1) (k := 4) (by decide : xrg 1 4 = 0)) (xpn (c := 0) (by decide : xcl 1 4 = 0) (by decide))
        rw [← est25] at hP
        have hF : FX 1 st sl so st25 sl5 so6 := by rw [est25]; exact hF.up (by decide)
        refine lv_goto (tgt := 174) hx hb dX8_stepOverRun_153 (by decide) ?_
        have he9 : (rne B g (941 - q) q) = u7 := hv13_2.symm.trans (rne_n (fun hh => by have h1 := hh.1; have h2 : (97 ≤ B u7 ∧ B u7 ≤ 122) ∨ (48 ≤ B u7 ∧ B u7 ≤ 57) := hh.2; omega))
        exact W.vret hx hb hr (fun t ht hW => ⟨⟨(st25, sl5, so6), rfl, ⟨hG, hO, hF, ⟨0, by rw [he9]; exact (by show st25 1 3 = _; rw [est25, up2_ne (r := 1) (k := 4) (a := 1) (j := 3) _ _ (by omega), eu7]), (by show st25 1 5 = _; rw [est25, up2_ne (r := 1) (k := 4) (a := 1) (j := 5) _ _ (by omega), hv17_6]), (by show st25 1 4 = _; rw [est25, up2_same]; rfl), by rw [he9]; omega, fun hh => absurd hh (by omega), fun _ => by rw [he9]; exact hv15_4 (by omega), hv18_7⟩⟩, xB.of ht hP⟩, hS.F ht⟩) hS.2.2 dX8_stepOverRun_174
  · have c1 : ¬ g ≤ u7 := fun hh => c1 ((nI_leI (a := g) (b := u7) (by omega) (by omega)).mpr hh)
    refine lv_aload_n hx hb dX8_stepOverRun_23 rfl (lv_at hl 1 rfl) ?_
    refine va_get (D := (dC, dI)) (ci := 9) (v := .ref (A 2)) (C := RX8) (T := TX8) (N := 15) hx hb hts ii_X8_stepOverRun_X8 hown hK hP 1 (xw_is (r := 1) (by omega) (xc_fix (r := 1) (by omega))) rfl 0 (by decide) (hts _ mm_X8_stepOverRun_5) (fun _ hh => hh) rfl dX8_stepOverRun_24 ?_
    refine lv_aload_n hx hb dX8_stepOverRun_27 rfl (lv_at hl 1 rfl) ?_
    refine va_get (D := (dC, dI)) (ci := 9) (v := .int (st4 1 3)) (C := RX8) (T := TX8) (N := 15) hx hb hts ii_X8_stepOverRun_X8 hown hK hP 1 (xw_is (r := 1) (by omega) (xc_fix (r := 1) (by omega))) rfl 3 (by decide) (hts _ mm_X8_stepOverRun_3) (fun _ hh => hh) rfl dX8_stepOverRun_28 ?_
    refine zz_top (v := (nI u7)) (by show st4 1 3 = _; rw [eu7]) ?_
    refine va_bald hx hb hK hP 2 2 (xw_is (r := 2) (by omega) (xc_fix (r := 2) (by omega))) (xt_is (r := 2) (by omega) rfl) (i := (nI u7)) (vp_in_nI (by omega) (by decide)) dX8_stepOverRun_31 ?_
    refine zz_top (v := sbt (B u7)) (by rw [nI_clamp (by omega)]; exact ((CBt.fr hB hF).2.2.2.2 u7 (by omega)).1) ?_
    have hq26 := (hB.2.2.2.2 u7 (by omega)).2
    refine va_calli (va_runS (As := [.int (sbt (B u7))]) (rest := []) ⟨hx, hb, hml, hown, hts⟩ (y_X8_isLetter l dC dI ad E hEE A C nb _ hN st4 sl5 so6 (sbt (B u7)) hG.1 ) (va_cwS 1 hts gX8_stepOverRun_X8_isLetter rfl rfl rfl (by decide +kernel) ⟨Nat.le_of_ble_eq_true rfl, Nat.le_of_ble_eq_true rfl⟩) ⟨fun a U g mk q => ⟨q.1, xPre.blind hEE q.2⟩, fun U hU hW => ⟨rfl, xPre.of hEE hP hK hE hS hU hW⟩⟩ rfl rfl hl.1 rfl (lv_room (Nat.le_of_ble_eq_true rfl)) dX8_stepOverRun_32 ⟨Nat.le_of_ble_eq_true rfl, Nat.le_of_ble_eq_true rfl⟩) hS (fun q _ h => XA.le hS.1 q h) (XA.le hS.1) (fun r27 x t H locs ht hvm hw hB9 _ _ hS => ?_)
    have hP := xB.at ht hB9
    clear hB9 ht hvm
    obtain ⟨rfl, hw⟩ := hw
    have hP : va_P (dC, dI) vwCl (xw A C nb st4 sl5 so6) _ := hP
    rcases hw with ⟨rfl, hf28, hf29⟩ | ⟨rfl, hf30⟩
    · have hshf28 := (sbt_L (B u7) (by omega)).mp ⟨hf28, hf29⟩
      refine lv_if_ne (tgt := 53) hx hb dX8_stepOverRun_35 (by decide) (fun _ => ?_) (fun cc => absurd cc (by decide))
      refine lv_aload_n hx hb dX8_stepOverRun_53 rfl (lv_at hl 1 rfl) ?_
      refine va_get (D := (dC, dI)) (ci := 9) (v := .ref (A 2)) (C := RX8) (T := TX8) (N := 15) hx hb hts ii_X8_stepOverRun_X8 hown hK hP 1 (xw_is (r := 1) (by omega) (xc_fix (r := 1) (by omega))) rfl 0 (by decide) (hts _ mm_X8_stepOverRun_5) (fun _ hh => hh) rfl dX8_stepOverRun_54 ?_
      refine lv_aload_n hx hb dX8_stepOverRun_57 rfl (lv_at hl 1 rfl) ?_
      refine va_get (D := (dC, dI)) (ci := 9) (v := .int (st4 1 3)) (C := RX8) (T := TX8) (N := 15) hx hb hts ii_X8_stepOverRun_X8 hown hK hP 1 (xw_is (r := 1) (by omega) (xc_fix (r := 1) (by omega))) rfl 3 (by decide) (hts _ mm_X8_stepOverRun_3) (fun _ hh => hh) rfl dX8_stepOverRun_58 ?_
      refine zz_top (v := (nI u7)) (by show st4 1 3 = _; rw [eu7]) ?_
      refine va_bald hx hb hK hP 2 2 (xw_is (r := 2) (by omega) (xc_fix (r := 2) (by omega))) (xt_is (r := 2) (by omega) rfl) (i := (nI u7)) (vp_in_nI (by omega) (by decide)) dX8_stepOverRun_61 ?_
      refine zz_top (v := sbt (B u7)) (by rw [nI_clamp (by omega)]; exact ((CBt.fr hB hF).2.2.2.2 u7 (by omega)).1) ?_
      have hq31 := (hB.2.2.2.2 u7 (by omega)).2
      refine lv_istore_n (lv' := [(2, .int (sbt (B u7))), (1, .int (nI k3)), (0, .ref (A 1))]) hx hb dX8_stepOverRun_62 rfl hl (by decide) rfl (fun ls hl => ?_)
      refine lv_iload_n hx hb dX8_stepOverRun_63 rfl (lv_at hl 0 rfl) ?_
      refine va_calli (va_runS (As := [.int (sbt (B u7))]) (rest := []) ⟨hx, hb, hml, hown, hts⟩ (y_X8_isLetter l dC dI ad E hEE A C nb _ hN st4 sl5 so6 (sbt (B u7)) hG.1 ) (va_cwS 1 hts gX8_stepOverRun_X8_isLetter rfl rfl rfl (by decide +kernel) ⟨Nat.le_of_ble_eq_true rfl, Nat.le_of_ble_eq_true rfl⟩) ⟨fun a U g mk q => ⟨q.1, xPre.blind hEE q.2⟩, fun U hU hW => ⟨rfl, xPre.of hEE hP hK hE hS hU hW⟩⟩ rfl rfl hl.1 rfl (lv_room (Nat.le_of_ble_eq_true rfl)) dX8_stepOverRun_64 ⟨Nat.le_of_ble_eq_true rfl, Nat.le_of_ble_eq_true rfl⟩) hS (fun q _ h => XA.le hS.1 q h) (XA.le hS.1) (fun r32 x t H locs ht hvm hw hB9 _ _ hS => ?_)
      have hP := xB.at ht hB9
      clear hB9 ht hvm
      obtain ⟨rfl, hw⟩ := hw
      have hP : va_P (dC, dI) vwCl (xw A C nb st4 sl5 so6) _ := hP
      rcases hw with ⟨rfl, hf33, hf34⟩ | ⟨rfl, hf35⟩
      · have hshf33 := (sbt_L (B u7) (by omega)).mp ⟨hf33, hf34⟩
        refine lv_if_eq (tgt := 94) hx hb dX8_stepOverRun_67 (by decide) (fun cc => absurd cc (by decide)) (fun _ => ?_)
        refine lv_iinc (v := (nI (k3 + 1))) (lv' := [(1, .int (nI (k3 + 1))), (2, .int (sbt (B u7))), (0, .ref (A 1))]) hx hb dX8_stepOverRun_70 hl (k := 1) rfl (nI_add k3 1) (by decide) rfl (fun ls hl => ?_)
        refine lv_aload_n hx hb dX8_stepOverRun_73 rfl (lv_at hl 2 rfl) ?_
        refine lv_aload_n hx hb dX8_stepOverRun_74 rfl (lv_at hl 2 rfl) ?_
        refine va_get (D := (dC, dI)) (ci := 9) (v := .long (sl5 1 8)) (C := RX8) (T := TX8) (N := 15) hx hb hts ii_X8_stepOverRun_X8 hown hK hP 1 (xw_is (r := 1) (by omega) (xc_fix (r := 1) (by omega))) rfl 8 (by decide) (hts _ mm_X8_stepOverRun_1) (fun _ hh => hh) rfl dX8_stepOverRun_75 ?_
        refine lv_topl (fun z36 ez36 => ?_)
        refine lv_iconst (v := 5) hx hb dX8_stepOverRun_78 (by decide) ?_
        refine lv_lshl hx hb dX8_stepOverRun_79 rfl ?_
        refine lv_topl (fun z37 ez37 => ?_)
        refine lv_iload_n hx hb dX8_stepOverRun_80 rfl (lv_at hl 1 rfl) ?_
        refine lv_bipush (v := 97) hx hb dX8_stepOverRun_81 (by decide) ?_
        refine lv_isub hx hb dX8_stepOverRun_83 ?_
        refine lv_topi (fun z38 ez38 => ?_)
        refine lv_iconst (v := 1) hx hb dX8_stepOverRun_84 (by decide) ?_
        refine lv_iadd hx hb dX8_stepOverRun_85 ?_
        refine lv_topi (fun z39 ez39 => ?_)
        refine lv_i2l hx hb dX8_stepOverRun_86 rfl ?_
        refine lv_topl (fun z40 ez40 => ?_)
        refine lv_lor hx hb dX8_stepOverRun_87 ?_
        refine lv_topl (fun z41 ez41 => ?_)
        refine va_put (D := (dC, dI)) (ci := 9) (v := .long z41) (ty := .long) (C := RX8) (T := TX8) (N := 15) hx hb hts ii_X8_stepOverRun_X8 tyX8 tyX8_ok nmX8 hown hK hP (xD hN _ _ _ _ _ _) hS 1 (xw_is (r := 1) (by omega) (xc_fix (r := 1) (by omega))) rfl 8 (by decide) (hts _ mm_X8_stepOverRun_1) (fun _ hh => hh) rfl (by decide +kernel) rfl rfl (Nat.le_of_ble_eq_true rfl) dX8_stepOverRun_88 (fun H locs hP _ hS => ?_)
        have hP : va_P (dC, dI) vwCl (xw A C nb st4 (upL sl5 1 8 z41) so6) H := by rw [← xsetL (r := 1) (k := 8) (v := z41) (xc_fix (r := 1) (by omega))]; exact hP
        obtain ⟨sl42, esl42⟩ : ∃ y, y = upL sl5 1 8 z41 := ⟨_, rfl⟩
        rw [← esl42] at hP
        have hF : FX 1 st sl so st4 sl42 so6 := by rw [esl42]; exact hF.upL (by decide)
        refine lv_goto (tgt := 110) hx hb dX8_stepOverRun_91 (by decide) ?_
        refine lv_aload_n hx hb dX8_stepOverRun_110 rfl (lv_at hl 2 rfl) ?_
        refine lv_dup hx hb dX8_stepOverRun_111 rfl ?_
        refine va_get (D := (dC, dI)) (ci := 9) (v := .int (st4 1 3)) (C := RX8) (T := TX8) (N := 15) hx hb hts ii_X8_stepOverRun_X8 hown hK hP 1 (xw_is (r := 1) (by omega) (xc_fix (r := 1) (by omega))) rfl 3 (by decide) (hts _ mm_X8_stepOverRun_3) (fun _ hh => hh) rfl dX8_stepOverRun_112 ?_
        refine zz_top (v := (nI u7)) (by show st4 1 3 = _; rw [eu7]) ?_
        refine lv_iconst (v := 1) hx hb dX8_stepOverRun_115 (by decide) ?_
        refine lv_iadd hx hb dX8_stepOverRun_116 ?_
        refine zz_top (v := nI (u7 + 1)) (nI_add u7 1) ?_
        refine va_put (D := (dC, dI)) (ci := 9) (v := .int (nI (u7 + 1))) (ty := .int) (C := RX8) (T := TX8) (N := 15) hx hb hts ii_X8_stepOverRun_X8 tyX8 tyX8_ok nmX8 hown hK hP (xD hN _ _ _ _ _ _) hS 1 (xw_is (r := 1) (by omega) (xc_fix (r := 1) (by omega))) rfl 3 (by decide) (hts _ mm_X8_stepOverRun_3) (fun _ hh => hh) rfl (by decide +kernel) rfl rfl (Nat.le_of_ble_eq_true rfl) dX8_stepOverRun_117 (fun H locs hP _ hS => ?_)
        have hP : va_P (dC, dI) vwCl (xw A C nb (up2 st4 1 3 (nI (u7 + 1))) sl42 so6) H := by rw [← xset (r := 1) (k := 3) (v := (nI (u7 + 1))) (xc_fix (r := 1) (by omega))]; exact hP
        obtain ⟨st43, est43⟩ : ∃ y, y = up2 st4 1 3 (nI (u7 + 1)) := ⟨_, rfl⟩
        have hG : XG [1, 2, 3, 4, 5, 6, 7, 8, 9, 10, 11, 12, 13, 14, 15] st st43 := by rw [est43]; exact hG.up (xn (n := (u7 + 1)) (b := 941) (by decide : xrg 1 3 = 941) (by omega)) (xpn (c := 0) (by decide : xcl 1 3 = 0) (by decide))
        rw [← est43] at hP
        have hF : FX 1 st sl so st43 sl42 so6 := by rw [est43]; exact hF.up (by decide)
        refine lv_goto (tgt := 12) hx hb dX8_stepOverRun_120 (by decide) ?_
        have hs9 := cnL_sy (B := B) (q := q) (u := u7) (by omega) (show 97 ≤ B u7 ∧ B u7 ≤ 122 by omega)
        exact ih20 (941 - (u7 + 1)) _ _ _ _ (by omega) ⟨(k3 + 1), st43, sl42, so6, (u7 + 1), rfl, by omega, by omega, by omega, by rw [est43, up2_same], by omega, by omega, (rne_y (p := u7) (m := 941) ⟨by omega, Or.inl (show 97 ≤ B u7 ∧ B u7 ≤ 122 by omega)⟩ (by omega)).symm.trans hv13_2, by rw [hs9]; omega, fun hh => by rw [hs9] at hh; rw [esl42, upL_same, ez41, ez40, ez37, ez39, ez36, ez38, hv15_4 (by omega), cd5_s (by omega)]; exact zz_c5 (by omega) (by omega), fun hh => absurd hh (by rw [hs9]; omega), (by show st43 1 5 = _; rw [est43, up2_ne (r := 1) (k := 3) (a := 1) (j := 5) _ _ (by omega), hv17_6]), hv18_7, hF, hP, hG, hO, hS, lv_sub hl [0, 2] rfl, rfl⟩
      · have hshf35 : ¬ (97 ≤ B u7 ∧ B u7 ≤ 122) := fun hh => hf35 ((sbt_L (B u7) (by omega)).mpr hh)
        omega
    · have hshf30 : ¬ (97 ≤ B u7 ∧ B u7 ≤ 122) := fun hh => hf30 ((sbt_L (B u7) (by omega)).mpr hh)
      refine lv_if_ne (tgt := 53) hx hb dX8_stepOverRun_35 (by decide) (fun cc => absurd (by decide) cc) (fun _ => ?_)
      refine lv_aload_n hx hb dX8_stepOverRun_38 rfl (lv_at hl 1 rfl) ?_
      refine va_get (D := (dC, dI)) (ci := 9) (v := .ref (A 2)) (C := RX8) (T := TX8) (N := 15) hx hb hts ii_X8_stepOverRun_X8 hown hK hP 1 (xw_is (r := 1) (by omega) (xc_fix (r := 1) (by omega))) rfl 0 (by decide) (hts _ mm_X8_stepOverRun_5) (fun _ hh => hh) rfl dX8_stepOverRun_39 ?_
      refine lv_aload_n hx hb dX8_stepOverRun_42 rfl (lv_at hl 1 rfl) ?_
      refine va_get (D := (dC, dI)) (ci := 9) (v := .int (st4 1 3)) (C := RX8) (T := TX8) (N := 15) hx hb hts ii_X8_stepOverRun_X8 hown hK hP 1 (xw_is (r := 1) (by omega) (xc_fix (r := 1) (by omega))) rfl 3 (by decide) (hts _ mm_X8_stepOverRun_3) (fun _ hh => hh) rfl dX8_stepOverRun_43 ?_
      refine zz_top (v := (nI u7)) (by show st4 1 3 = _; rw [eu7]) ?_
      refine va_bald hx hb hK hP 2 2 (xw_is (r := 2) (by omega) (xc_fix (r := 2) (by omega))) (xt_is (r := 2) (by omega) rfl) (i := (nI u7)) (vp_in_nI (by omega) (by decide)) dX8_stepOverRun_46 ?_
      refine zz_top (v := sbt (B u7)) (by rw [nI_clamp (by omega)]; exact ((CBt.fr hB hF).2.2.2.2 u7 (by omega)).1) ?_
      have hq44 := (hB.2.2.2.2 u7 (by omega)).2
      refine va_calli (va_runS (As := [.int (sbt (B u7))]) (rest := []) ⟨hx, hb, hml, hown, hts⟩ (y_X8_isDigit l dC dI ad E hEE A C nb _ hN st4 sl5 so6 (sbt (B u7)) hG.1 ) (va_cwS 1 hts gX8_stepOverRun_X8_isDigit rfl rfl rfl (by decide +kernel) ⟨Nat.le_of_ble_eq_true rfl, Nat.le_of_ble_eq_true rfl⟩) ⟨fun a U g mk q => ⟨q.1, xPre.blind hEE q.2⟩, fun U hU hW => ⟨rfl, xPre.of hEE hP hK hE hS hU hW⟩⟩ rfl rfl hl.1 rfl (lv_room (Nat.le_of_ble_eq_true rfl)) dX8_stepOverRun_47 ⟨Nat.le_of_ble_eq_true rfl, Nat.le_of_ble_eq_true rfl⟩) hS (fun q _ h => XA.le hS.1 q h) (XA.le hS.1) (fun r45 x t H locs ht hvm hw hB9 _ _ hS => ?_)
      have hP := xB.at ht hB9
      clear hB9 ht hvm
      obtain ⟨rfl, hw⟩ := hw
      have hP : va_P (dC, dI) vwCl (xw A C nb st4 sl5 so6) _ := hP
      rcases hw with ⟨rfl, hf46, hf47⟩ | ⟨rfl, hf48⟩
      · have hshf46 := (sbt_D (B u7) (by omega)).mp ⟨hf46, hf47⟩
        refine lv_if_eq (tgt := 123) hx hb dX8_stepOverRun_50 (by decide) (fun cc => absurd cc (by decide)) (fun _ => ?_)
        refine lv_aload_n hx hb dX8_stepOverRun_53 rfl (lv_at hl 1 rfl) ?_
        refine va_get (D := (dC, dI)) (ci := 9) (v := .ref (A 2)) (C := RX8) (T := TX8) (N := 15) hx hb hts ii_X8_stepOverRun_X8 hown hK hP 1 (xw_is (r := 1) (by omega) (xc_fix (r := 1) (by omega))) rfl 0 (by decide) (hts _ mm_X8_stepOverRun_5) (fun _ hh => hh) rfl dX8_stepOverRun_54 ?_
        refine lv_aload_n hx hb dX8_stepOverRun_57 rfl (lv_at hl 1 rfl) ?_
        refine va_get (D := (dC, dI)) (ci := 9) (v := .int (st4 1 3)) (C := RX8) (T := TX8) (N := 15) hx hb hts ii_X8_stepOverRun_X8 hown hK hP 1 (xw_is (r := 1) (by omega) (xc_fix (r := 1) (by omega))) rfl 3 (by decide) (hts _ mm_X8_stepOverRun_3) (fun _ hh => hh) rfl dX8_stepOverRun_58 ?_
        refine zz_top (v := (nI u7)) (by show st4 1 3 = _; rw [eu7]) ?_
        refine va_bald hx hb hK hP 2 2 (xw_is (r := 2) (by omega) (xc_fix (r := 2) (by omega))) (xt_is (r := 2) (by omega) rfl) (i := (nI u7)) (vp_in_nI (by omega) (by decide)) dX8_stepOverRun_61 ?_
        refine zz_top (v := sbt (B u7)) (by rw [nI_clamp (by omega)]; exact ((CBt.fr hB hF).2.2.2.2 u7 (by omega)).1) ?_
        have hq49 := (hB.2.2.2.2 u7 (by omega)).2
        refine lv_istore_n (lv' := [(2, .int (sbt (B u7))), (1, .int (nI k3)), (0, .ref (A 1))]) hx hb dX8_stepOverRun_62 rfl hl (by decide) rfl (fun ls hl => ?_)
        refine lv_iload_n hx hb dX8_stepOverRun_63 rfl (lv_at hl 0 rfl) ?_
        refine va_calli (va_runS (As := [.int (sbt (B u7))]) (rest := []) ⟨hx, hb, hml, hown, hts⟩ (y_X8_isLetter l dC dI ad E hEE A C nb _ hN st4 sl5 so6 (sbt (B u7)) hG.1 ) (va_cwS 1 hts gX8_stepOverRun_X8_isLetter rfl rfl rfl (by decide +kernel) ⟨Nat.le_of_ble_eq_true rfl, Nat.le_of_ble_eq_true rfl⟩) ⟨fun a U g mk q => ⟨q.1, xPre.blind hEE q.2⟩, fun U hU hW => ⟨rfl, xPre.of hEE hP hK hE hS hU hW⟩⟩ rfl rfl hl.1 rfl (lv_room (Nat.le_of_ble_eq_true rfl)) dX8_stepOverRun_64 ⟨Nat.le_of_ble_eq_true rfl, Nat.le_of_ble_eq_true rfl⟩) hS (fun q _ h => XA.le hS.1 q h) (XA.le hS.1) (fun r50 x t H locs ht hvm hw hB9 _ _ hS => ?_)
        have hP := xB.at ht hB9
        clear hB9 ht hvm
        obtain ⟨rfl, hw⟩ := hw
        have hP : va_P (dC, dI) vwCl (xw A C nb st4 sl5 so6) _ := hP
        rcases hw with ⟨rfl, hf51, hf52⟩ | ⟨rfl, hf53⟩
        · have hshf51 := (sbt_L (B u7) (by omega)).mp ⟨hf51, hf52⟩
          omega
        · have hshf53 : ¬ (97 ≤ B u7 ∧ B u7 ≤ 122) := fun hh => hf53 ((sbt_L (B u7) (by omega)).mpr hh)
          refine lv_if_eq (tgt := 94) hx hb dX8_stepOverRun_67 (by decide) (fun _ => ?_) (fun cc => absurd (by decide) cc)
          refine lv_aload_n hx hb dX8_stepOverRun_94 rfl (lv_at hl 2 rfl) ?_
          refine lv_aload_n hx hb dX8_stepOverRun_95 rfl (lv_at hl 2 rfl) ?_
          refine va_get (D := (dC, dI)) (ci := 9) (v := .int (st4 1 6)) (C := RX8) (T := TX8) (N := 15) hx hb hts ii_X8_stepOverRun_X8 hown hK hP 1 (xw_is (r := 1) (by omega) (xc_fix (r := 1) (by omega))) rfl 6 (by decide) (hts _ mm_X8_stepOverRun_2) (fun _ hh => hh) rfl dX8_stepOverRun_96 ?_
          obtain ⟨z54, ez54⟩ : ∃ y : Int32, st4 1 6 = y := ⟨_, rfl⟩
          refine zz_top (v := z54) (by exact ez54) ?_
          refine lv_bipush (v := 10) hx hb dX8_stepOverRun_99 (by decide) ?_
          refine lv_imul hx hb dX8_stepOverRun_101 ?_
          refine lv_topi (fun z55 ez55 => ?_)
          refine lv_iload_n hx hb dX8_stepOverRun_102 rfl (lv_at hl 0 rfl) ?_
          refine lv_iadd hx hb dX8_stepOverRun_103 ?_
          refine lv_topi (fun z56 ez56 => ?_)
          refine lv_bipush (v := 48) hx hb dX8_stepOverRun_104 (by decide) ?_
          refine lv_isub hx hb dX8_stepOverRun_106 ?_
          refine lv_topi (fun z57 ez57 => ?_)
          refine va_put (D := (dC, dI)) (ci := 9) (v := .int z57) (ty := .int) (C := RX8) (T := TX8) (N := 15) hx hb hts ii_X8_stepOverRun_X8 tyX8 tyX8_ok nmX8 hown hK hP (xD hN _ _ _ _ _ _) hS 1 (xw_is (r := 1) (by omega) (xc_fix (r := 1) (by omega))) rfl 6 (by decide) (hts _ mm_X8_stepOverRun_2) (fun _ hh => hh) rfl (by decide +kernel) rfl rfl (Nat.le_of_ble_eq_true rfl) dX8_stepOverRun_107 (fun H locs hP _ hS => ?_)
          have hP : va_P (dC, dI) vwCl (xw A C nb (up2 st4 1 6 z57) sl5 so6) H := by rw [← xset (r := 1) (k := 6) (v := z57) (xc_fix (r := 1) (by omega))]; exact hP
          obtain ⟨st58, est58⟩ : ∃ y, y = up2 st4 1 6 z57 := ⟨_, rfl⟩
          have hG : XG [1, 2, 3, 4, 5, 6, 7, 8, 9, 10, 11, 12, 13, 14, 15] st st58 := by rw [est58]; exact hG.up (xz (r := 1) (k := 6) (by decide : xrg 1 6 = 0)) (xpn (c := 0) (by decide : xcl 1 6 = 0) (by decide))
          rw [← est58] at hP
          have hF : FX 1 st sl so st58 sl5 so6 := by rw [est58]; exact hF.up (by decide)
          refine lv_aload_n hx hb dX8_stepOverRun_110 rfl (lv_at hl 2 rfl) ?_
          refine lv_dup hx hb dX8_stepOverRun_111 rfl ?_
          refine va_get (D := (dC, dI)) (ci := 9) (v := .int (st58 1 3)) (C := RX8) (T := TX8) (N := 15) hx hb hts ii_X8_stepOverRun_X8 hown hK hP 1 (xw_is (r := 1) (by omega) (xc_fix (r := 1) (by omega))) rfl 3 (by decide) (hts _ mm_X8_stepOverRun_3) (fun _ hh => hh) rfl dX8_stepOverRun_112 ?_
          refine zz_top (v := (nI u7)) (by show st58 1 3 = _; rw [est58, up2_ne (r := 1) (k := 6) (a := 1) (j := 3) _ _ (by omega), eu7]) ?_
          refine lv_iconst (v := 1) hx hb dX8_stepOverRun_115 (by decide) ?_
          refine lv_iadd hx hb dX8_stepOverRun_116 ?_
          refine zz_top (v := nI (u7 + 1)) (nI_add u7 1) ?_
          refine va_put (D := (dC, dI)) (ci := 9) (v := .int (nI (u7 + 1))) (ty := .int) (C := RX8) (T := TX8) (N := 15) hx hb hts ii_X8_stepOverRun_X8 tyX8 tyX8_ok nmX8 hown hK hP (xD hN _ _ _ _ _ _) hS 1 (xw_is (r := 1) (by omega) (xc_fix (r := 1) (by omega))) rfl 3 (by decide) (hts _ mm_X8_stepOverRun_3) (fun _ hh => hh) rfl (by decide +kernel) rfl rfl (Nat.le_of_ble_eq_true rfl) dX8_stepOverRun_117 (fun H locs hP _ hS => ?_)
          have hP : va_P (dC, dI) vwCl (xw A C nb (up2 st58 1 3 (nI (u7 + 1))) sl5 so6) H := by rw [← xset (r := 1) (k := 3) (v := (nI (u7 + 1))) (xc_fix (r := 1) (by omega))]; exact hP
          obtain ⟨st59, est59⟩ : ∃ y, y = up2 st58 1 3 (nI (u7 + 1)) := ⟨_, rfl⟩
          have hG : XG [1, 2, 3, 4, 5, 6, 7, 8, 9, 10, 11, 12, 13, 14, 15] st st59 := by rw [est59]; exact hG.up (xn (n := (u7 + 1)) (b := 941) (by decide : xrg 1 3 = 941) (by omega)) (xpn (c := 0) (by decide : xcl 1 3 = 0) (by decide))
          rw [← est59] at hP
          have hF : FX 1 st sl so st59 sl5 so6 := by rw [est59]; exact hF.up (by decide)
          refine lv_goto (tgt := 12) hx hb dX8_stepOverRun_120 (by decide) ?_
          have hs9 := cnL_sn (B := B) (q := q) (u := u7) (by omega) (fun hh => by have h1 : 97 ≤ B u7 ∧ B u7 ≤ 122 := hh; omega)
          have hb9 := nmb_b (B := B) (q := q) (u7 - q) (fun j hj => (hB.2.2.2.2 _ (by omega)).2)
          exact ih20 (941 - (u7 + 1)) _ _ _ _ (by omega) ⟨k3, st59, sl5, so6, (u7 + 1), rfl, by omega, by omega, by omega, by rw [est59, up2_same], by omega, by omega, (rne_y (p := u7) (m := 941) ⟨by omega, Or.inr (show 48 ≤ B u7 ∧ B u7 ≤ 57 by omega)⟩ (by omega)).symm.trans hv13_2, by rw [hs9]; omega, fun hh => absurd hh (by rw [hs9]; omega), fun hh => by have h2 : 10 ^ (u7 - q) ≤ 10 ^ 2 := Nat.pow_le_pow_right (by decide) (by omega); rw [hs9] at hh; show st59 1 6 = _; rw [est59, up2_ne (r := 1) (k := 3) (a := 1) (j := 6) _ _ (by omega), est58, up2_same, ez57, ez56, ez55, ← ez54, hv16_5 (by omega), nmb_s (by omega)]; exact zz_d10c (by omega) (by omega) (by omega), (by show st59 1 5 = _; rw [est59, up2_ne (r := 1) (k := 3) (a := 1) (j := 5) _ _ (by omega), est58, up2_ne (r := 1) (k := 6) (a := 1) (j := 5) _ _ (by omega), hv17_6]), hv18_7, hF, hP, hG, hO, hS, lv_sub hl [1, 2] rfl, rfl⟩
      · have hshf48 : ¬ (48 ≤ B u7 ∧ B u7 ≤ 57) := fun hh => hf48 ((sbt_D (B u7) (by omega)).mpr hh)
        refine lv_if_eq (tgt := 123) hx hb dX8_stepOverRun_50 (by decide) (fun _ => ?_) (fun cc => absurd (by decide) cc)
        refine lv_aload_n hx hb dX8_stepOverRun_123 rfl (lv_at hl 1 rfl) ?_
        refine va_get (D := (dC, dI)) (ci := 9) (v := .int (st4 1 3)) (C := RX8) (T := TX8) (N := 15) hx hb hts ii_X8_stepOverRun_X8 hown hK hP 1 (xw_is (r := 1) (by omega) (xc_fix (r := 1) (by omega))) rfl 3 (by decide) (hts _ mm_X8_stepOverRun_3) (fun _ hh => hh) rfl dX8_stepOverRun_124 ?_
        refine zz_top (v := (nI u7)) (by show st4 1 3 = _; rw [eu7]) ?_
        refine lv_aload_n hx hb dX8_stepOverRun_127 rfl (lv_at hl 1 rfl) ?_
        refine va_get (D := (dC, dI)) (ci := 9) (v := .int (st4 1 5)) (C := RX8) (T := TX8) (N := 15) hx hb hts ii_X8_stepOverRun_X8 hown hK hP 1 (xw_is (r := 1) (by omega) (xc_fix (r := 1) (by omega))) rfl 5 (by decide) (hts _ mm_X8_stepOverRun_6) (fun _ hh => hh) rfl dX8_stepOverRun_128 ?_
        refine zz_top (v := (nI q)) (by show st4 1 5 = _; rw [hv17_6]) ?_
        refine lv_isub hx hb dX8_stepOverRun_131 ?_
        refine zz_top (v := nI (u7 - q)) (nI_subN (a := u7) (b := q) (by omega) (by omega)) ?_
        refine lv_istore_n (lv' := [(2, .int (nI (u7 - q))), (1, .int (nI k3)), (0, .ref (A 1))]) hx hb dX8_stepOverRun_132 rfl hl (by decide) rfl (fun ls hl => ?_)
        refine lv_iload_n hx hb dX8_stepOverRun_133 rfl (lv_at hl 1 rfl) ?_
        refine lv_iload_n hx hb dX8_stepOverRun_134 rfl (lv_at hl 0 rfl) ?_
        refine lv_icmp_ne (tgt := 156) hx hb dX8_stepOverRun_135 (by decide) (fun c12 => ?_) (fun c12 => ?_)
        · have c12 : ¬ k3 = (u7 - q) := fun hh => c12 ((nI_eq (a := k3) (b := (u7 - q)) (by omega) (by omega)).mpr hh)
          refine lv_aload_n hx hb dX8_stepOverRun_156 rfl (lv_at hl 2 rfl) ?_
          refine lv_iload_n hx hb dX8_stepOverRun_157 rfl (lv_at hl 1 rfl) ?_
          refine lv_if_ne (tgt := 170) hx hb dX8_stepOverRun_158 (by decide) (fun c13 => ?_) (fun c13 => ?_)
          · have c13 : ¬ k3 = 0 := fun hh => c13 ((nI_eq (a := k3) (b := 0) (by omega) (by omega)).mpr hh)
            refine lv_iconst (v := 4) hx hb dX8_stepOverRun_170 (by decide) ?_
            refine va_put (D := (dC, dI)) (ci := 9) (v := .int 4) (ty := .int) (C := RX8) (T := TX8) (N := 15) hx hb hts ii_X8_stepOverRun_X8 tyX8 tyX8_ok nmX8 hown hK hP (xD hN _ _ _ _ _ _) hS 1 (xw_is (r := 1) (by omega) (xc_fix (r := 1) (by omega))) rfl 4 (by decide) (hts _ mm_X8_stepOverRun_7) (fun _ hh => hh) rfl (by decide +kernel) rfl rfl (Nat.le_of_ble_eq_true rfl) dX8_stepOverRun_171 (fun H locs hP _ hS => ?_)
            have hP : va_P (dC, dI) vwCl (xw A C nb (up2 st4 1 4 4) sl5 so6) H := by rw [← xset (r := 1) (k := 4) (v := 4) (xc_fix (r := 1) (by omega))]; exact hP
            obtain ⟨st60, est60⟩ : ∃ y, y = up2 st4 1 4 4 := ⟨_, rfl⟩
            have hG : XG [1, 2, 3, 4, 5, 6, 7, 8, 9, 10, 11, 12, 13, 14, 15] st st60 := by rw [est60]; exact hG.up (xz (r := 1) (k := 4) (by decide : xrg 1 4 = 0)) (xpn (c := 0) (by decide : xcl 1 4 = 0) (by decide))
            rw [← est60] at hP
            have hF : FX 1 st sl so st60 sl5 so6 := by rw [est60]; exact hF.up (by decide)
            have he9 : (rne B g (941 - q) q) = u7 := hv13_2.symm.trans (rne_n (fun hh => by have h1 := hh.1; have h2 : (97 ≤ B u7 ∧ B u7 ≤ 122) ∨ (48 ≤ B u7 ∧ B u7 ≤ 57) := hh.2; omega))
            exact W.vret hx hb hr (fun t ht hW => ⟨⟨(st60, sl5, so6), rfl, ⟨hG, hO, hF, ⟨4, by rw [he9]; exact (by show st60 1 3 = _; rw [est60, up2_ne (r := 1) (k := 4) (a := 1) (j := 3) _ _ (by omega), eu7]), (by show st60 1 5 = _; rw [est60, up2_ne (r := 1) (k := 4) (a := 1) (j := 5) _ _ (by omega), hv17_6]), (by show st60 1 4 = _; rw [est60, up2_same]; rfl), by rw [he9]; omega, fun hh => absurd hh (by omega), fun hh => absurd hh (by omega), hv18_7⟩⟩, xB.of ht hP⟩, hS.F ht⟩) hS.2.2 dX8_stepOverRun_174
          · have c13 : k3 = 0 := (nI_eq (a := k3) (b := 0) (by omega) (by omega)).mp c13
            refine lv_iload_n hx hb dX8_stepOverRun_161 rfl (lv_at hl 0 rfl) ?_
            refine lv_iconst (v := 3) hx hb dX8_stepOverRun_162 (by decide) ?_
            refine lv_icmp_gt (tgt := 170) hx hb dX8_stepOverRun_163 (by decide) (fun c14 => ?_) (fun c14 => ?_)
            · have c14 : 3 < (u7 - q) := (nI_ltI (a := 3) (b := (u7 - q)) (by omega) (by omega)).mp c14
              refine lv_iconst (v := 4) hx hb dX8_stepOverRun_170 (by decide) ?_
              refine va_put (D := (dC, dI)) (ci := 9) (v := .int 4) (ty := .int) (C := RX8) (T := TX8) (N := 15) hx hb hts ii_X8_stepOverRun_X8 tyX8 tyX8_ok nmX8 hown hK hP (xD hN _ _ _ _ _ _) hS 1 (xw_is (r := 1) (by omega) (xc_fix (r := 1) (by omega))) rfl 4 (by decide) (hts _ mm_X8_stepOverRun_7) (fun _ hh => hh) rfl (by decide +kernel) rfl rfl (Nat.le_of_ble_eq_true rfl) dX8_stepOverRun_171 (fun H locs hP _ hS => ?_)
              have hP : va_P (dC, dI) vwCl (xw A C nb (up2 st4 1 4 4) sl5 so6) H := by rw [← xset (r := 1) (k := 4) (v := 4) (xc_fix (r := 1) (by omega))]; exact hP
              obtain ⟨st61, est61⟩ : ∃ y, y = up2 st4 1 4 4 := ⟨_, rfl⟩
              have hG : XG [1, 2, 3, 4, 5, 6, 7, 8, 9, 10, 11, 12, 13, 14, 15] st st61 := by rw [est61]; exact hG.up (xz (r := 1) (k := 4) (by decide : xrg 1 4 = 0)) (xpn (c := 0) (by decide : xcl 1 4 = 0) (by decide))
              rw [← est61] at hP
              have hF : FX 1 st sl so st61 sl5 so6 := by rw [est61]; exact hF.up (by decide)
              have he9 : (rne B g (941 - q) q) = u7 := hv13_2.symm.trans (rne_n (fun hh => by have h1 := hh.1; have h2 : (97 ≤ B u7 ∧ B u7 ≤ 122) ∨ (48 ≤ B u7 ∧ B u7 ≤ 57) := hh.2; omega))
              exact W.vret hx hb hr (fun t ht hW => ⟨⟨(st61, sl5, so6), rfl, ⟨hG, hO, hF, ⟨4, by rw [he9]; exact (by show st61 1 3 = _; rw [est61, up2_ne (r := 1) (k := 4) (a := 1) (j := 3) _ _ (by omega), eu7]), (by show st61 1 5 = _; rw [est61, up2_ne (r := 1) (k := 4) (a := 1) (j := 5) _ _ (by omega), hv17_6]), (by show st61 1 4 = _; rw [est61, up2_same]; rfl), by rw [he9]; omega, fun hh => absurd hh (by omega), fun hh => absurd hh (by omega), hv18_7⟩⟩, xB.of ht hP⟩, hS.F ht⟩) hS.2.2 dX8_stepOverRun_174
            · have c14 : ¬ 3 < (u7 - q) := fun hh => c14 ((nI_ltI (a := 3) (b := (u7 - q)) (by omega) (by omega)).mpr hh)
              refine lv_iconst (v := 1) hx hb dX8_stepOverRun_166 (by decide) ?_
              refine lv_goto (tgt := 171) hx hb dX8_stepOverRun_167 (by decide) ?_
              refine va_put (D := (dC, dI)) (ci := 9) (v := .int 1) (ty := .int) (C := RX8) (T := TX8) (N := 15) hx hb hts ii_X8_stepOverRun_X8 tyX8 tyX8_ok nmX8 hown hK hP (xD hN _ _ _ _ _ _) hS 1 (xw_is (r := 1) (by omega) (xc_fix (r := 1) (by omega))) rfl 4 (by decide) (hts _ mm_X8_stepOverRun_7) (fun _ hh => hh) rfl (by decide +kernel) rfl rfl (Nat.le_of_ble_eq_true rfl) dX8_stepOverRun_171 (fun H locs hP _ hS => ?_)
              have hP : va_P (dC, dI) vwCl (xw A C nb (up2 st4 1 4 1) sl5 so6) H := by rw [← xset (r := 1) (k := 4) (v := 1) (xc_fix (r := 1) (by omega))]; exact hP
              obtain ⟨st62, est62⟩ : ∃ y, y = up2 st4 1 4 1 := ⟨_, rfl⟩
              have hG : XG [1, 2, 3, 4, 5, 6, 7, 8, 9, 10, 11, 12, 13, 14, 15] st st62 := by rw [est62]; exact hG.up (xz (r := 1) (k := 4) (by decide : xrg 1 4 = 0)) (xpn (c := 0) (by decide : xcl 1 4 = 0) (by decide))
              rw [← est62] at hP
              have hF : FX 1 st sl so st62 sl5 so6 := by rw [est62]; exact hF.up (by decide)
              have he9 : (rne B g (941 - q) q) = u7 := hv13_2.symm.trans (rne_n (fun hh => by have h1 := hh.1; have h2 : (97 ≤ B u7 ∧ B u7 ≤ 122) ∨ (48 ≤ B u7 ∧ B u7 ≤ 57) := hh.2; omega))
              exact W.vret hx hb hr (fun t ht hW => ⟨⟨(st62, sl5, so6), rfl, ⟨hG, hO, hF, ⟨1, by rw [he9]; exact (by show st62 1 3 = _; rw [est62, up2_ne (r := 1) (k := 4) (a := 1) (j := 3) _ _ (by omega), eu7]), (by show st62 1 5 = _; rw [est62, up2_ne (r := 1) (k := 4) (a := 1) (j := 5) _ _ (by omega), hv17_6]), (by show st62 1 4 = _; rw [est62, up2_same]; rfl), by rw [he9]; omega, fun _ => by rw [he9]; show st62 1 6 = _; rw [est62, up2_ne (r := 1) (k := 4) (a := 1) (j := 6) _ _ (by omega)]; exact hv16_5 (by omega), fun hh => absurd hh (by omega), hv18_7⟩⟩, xB.of ht hP⟩, hS.F ht⟩) hS.2.2 dX8_stepOverRun_174
        · have c12 : k3 = (u7 - q) := (nI_eq (a := k3) (b := (u7 - q)) (by omega) (by omega)).mp c12
          refine lv_aload_n hx hb dX8_stepOverRun_138 rfl (lv_at hl 2 rfl) ?_
          refine lv_iload_n hx hb dX8_stepOverRun_139 rfl (lv_at hl 0 rfl) ?_
          refine lv_bipush (v := 7) hx hb dX8_stepOverRun_140 (by decide) ?_
          refine lv_icmp_gt (tgt := 149) hx hb dX8_stepOverRun_142 (by decide) (fun c15 => ?_) (fun c15 => ?_)
          · have c15 : 7 < (u7 - q) := (nI_ltI (a := 7) (b := (u7 - q)) (by omega) (by omega)).mp c15
            refine lv_iconst (v := 4) hx hb dX8_stepOverRun_149 (by decide) ?_
            refine va_put (D := (dC, dI)) (ci := 9) (v := .int 4) (ty := .int) (C := RX8) (T := TX8) (N := 15) hx hb hts ii_X8_stepOverRun_X8 tyX8 tyX8_ok nmX8 hown hK hP (xD hN _ _ _ _ _ _) hS 1 (xw_is (r := 1) (by omega) (xc_fix (r := 1) (by omega))) rfl 4 (by decide) (hts _ mm_X8_stepOverRun_7) (fun _ hh => hh) rfl (by decide +kernel) rfl rfl (Nat.le_of_ble_eq_true rfl) dX8_stepOverRun_150 (fun H locs hP _ hS => ?_)
            have hP : va_P (dC, dI) vwCl (xw A C nb (up2 st4 1 4 4) sl5 so6) H := by rw [← xset (r := 1) (k := 4) (v := 4) (xc_fix (r := 1) (by omega))]; exact hP
            obtain ⟨st63, est63⟩ : ∃ y, y = up2 st4 1 4 4 := ⟨_, rfl⟩
            have hG : XG [1, 2, 3, 4, 5, 6, 7, 8, 9, 10, 11, 12, 13, 14, 15] st st63 := by rw [est63]; exact hG.up (xz (r := 1) (k := 4) (by decide : xrg 1 4 = 0)) (xpn (c := 0) (by decide : xcl 1 4 = 0) (by decide))
            rw [← est63] at hP
            have hF : FX 1 st sl so st63 sl5 so6 := by rw [est63]; exact hF.up (by decide)
            refine lv_goto (tgt := 174) hx hb dX8_stepOverRun_153 (by decide) ?_
            have he9 : (rne B g (941 - q) q) = u7 := hv13_2.symm.trans (rne_n (fun hh => by have h1 := hh.1; have h2 : (97 ≤ B u7 ∧ B u7 ≤ 122) ∨ (48 ≤ B u7 ∧ B u7 ≤ 57) := hh.2; omega))
            exact W.vret hx hb hr (fun t ht hW => ⟨⟨(st63, sl5, so6), rfl, ⟨hG, hO, hF, ⟨4, by rw [he9]; exact (by show st63 1 3 = _; rw [est63, up2_ne (r := 1) (k := 4) (a := 1) (j := 3) _ _ (by omega), eu7]), (by show st63 1 5 = _; rw [est63, up2_ne (r := 1) (k := 4) (a := 1) (j := 5) _ _ (by omega), hv17_6]), (by show st63 1 4 = _; rw [est63, up2_same]; rfl), by rw [he9]; omega, fun hh => absurd hh (by omega), fun hh => absurd hh (by omega), hv18_7⟩⟩, xB.of ht hP⟩, hS.F ht⟩) hS.2.2 dX8_stepOverRun_174
          · have c15 : ¬ 7 < (u7 - q) := fun hh => c15 ((nI_ltI (a := 7) (b := (u7 - q)) (by omega) (by omega)).mpr hh)
            refine lv_iconst (v := 0) hx hb dX8_stepOverRun_145 (by decide) ?_
            refine lv_goto (tgt := 150) hx hb dX8_stepOverRun_146 (by decide) ?_
            refine va_put (D := (dC, dI)) (ci := 9) (v := .int 0) (ty := .int) (C := RX8) (T := TX8) (N := 15) hx hb hts ii_X8_stepOverRun_X8 tyX8 tyX8_ok nmX8 hown hK hP (xD hN _ _ _ _ _ _) hS 1 (xw_is (r := 1) (by omega) (xc_fix (r := 1) (by omega))) rfl 4 (by decide) (hts _ mm_X8_stepOverRun_7) (fun _ hh => hh) rfl (by decide +kernel) rfl rfl (Nat.le_of_ble_eq_true rfl) dX8_stepOverRun_150 (fun H locs hP _ hS => ?_)
            have hP : va_P (dC, dI) vwCl (xw A C nb (up2 st4 1 4 0) sl5 so6) H := by rw [← xset (r := 1) (k := 4) (v := 0) (xc_fix (r := 1) (by omega))]; exact hP
            obtain ⟨st64, est64⟩ : ∃ y, y = up2 st4 1 4 0 := ⟨_, rfl⟩
            have hG : XG [1, 2, 3, 4, 5, 6, 7, 8, 9, 10, 11, 12, 13, 14, 15] st st64 := by rw [est64]; exact hG.up (xz (r := 1) (k := 4) (by decide : xrg 1 4 = 0)) (xpn (c := 0) (by decide : xcl 1 4 = 0) (by decide))
            rw [← est64] at hP
            have hF : FX 1 st sl so st64 sl5 so6 := by rw [est64]; exact hF.up (by decide)
            refine lv_goto (tgt := 174) hx hb dX8_stepOverRun_153 (by decide) ?_
            have he9 : (rne B g (941 - q) q) = u7 := hv13_2.symm.trans (rne_n (fun hh => by have h1 := hh.1; have h2 : (97 ≤ B u7 ∧ B u7 ≤ 122) ∨ (48 ≤ B u7 ∧ B u7 ≤ 57) := hh.2; omega))
            exact W.vret hx hb hr (fun t ht hW => ⟨⟨(st64, sl5, so6), rfl, ⟨hG, hO, hF, ⟨0, by rw [he9]; exact (by show st64 1 3 = _; rw [est64, up2_ne (r := 1) (k := 4) (a := 1) (j := 3) _ _ (by omega), eu7]), (by show st64 1 5 = _; rw [est64, up2_ne (r := 1) (k := 4) (a := 1) (j := 5) _ _ (by omega), hv17_6]), (by show st64 1 4 = _; rw [est64, up2_same]; rfl), by rw [he9]; omega, fun hh => absurd hh (by omega), fun _ => by rw [he9]; exact hv15_4 (by omega), hv18_7⟩⟩, xB.of ht hP⟩, hS.F ht⟩) hS.2.2 dX8_stepOverRun_174
set_option maxHeartbeats 4000000 in
set_option maxRecDepth 100000 in
theorem y_J1_charAt_3b067 (l : Launch) (dC : Nat → ClassId) (dI : Nat → Nat → Nat) (ad : Nat → Nat) (E : EP) (hEE : EC ad E) (A : Nat → Nat) (C : Nat → ClassId) (nb sz : Nat) (hN : XN A) (st : Nat → Nat → Int32) (sl : Nat → Nat → Int64) (so : Nat → XR) (si : Nat) (va : Nat) (hsi : si < 30) (hva : va < 13) (hI : XI st) (hab : va < sv_len.getD si 0) (h24 : si < 24) : Met l yJ1_charAt_3b067 wsJ1_charAt_3b067 ({ frames := 2, cells := 0, slots := 0, locals := 43 }) (va_Pc [.ref (ad (200 + si)), .int (nI va)] (xPre E dC dI A C nb sz st sl so)) (va_Qi (fun (r : Int32) (x : XT) => x = (st, sl, so) ∧ (r = nI (kwB si va))) (xB dC dI A C nb) (XA A sz)) 0 0 (XA A sz) := by
  refine Met.ofW (cc := cJ1_charAt_3b067) (maxL := 2) (ret := (some .char)) (by decide) rfl ?_
  intro p9 e s m9 args below meth c9 s₁ B9 hml hv
  obtain ⟨rfl, hsz, hP, hK, hE⟩ := hv
  have hx := B9.exec
  have hb := B9.bytes
  have hr := B9.returns
  have hts := atoms_spec (ws := wsJ1_charAt_3b067) B9.pre
  have hown : s.vm.findClass RJ1 = some m9.cls := findClass_of_methodNamed B9.named
  subst hsz
  have hEv := hEE.1 _ _ _ hE
  have hS : va_S (XA A s.heap.size) s.heap s.heap [] := va_S.rf
  have hG : XG [1, 2, 3, 4, 5, 6, 7, 8, 9, 10, 11, 12, 13, 14, 15] st st := XG.rf hI
  have hl := lv_entry ([.ref (ad (200 + si)), .int (nI va)]) (n := 2) (Nat.le_of_ble_eq_true rfl)
  rw [lg_entry_eq]
  generalize (lg_sl ([.ref (ad (200 + si)), .int (nI va)]) ++ List.replicate (2 - (lg_sl ([.ref (ad (200 + si)), .int (nI va)])).length) Slot.unset).toArray = ls at hl ⊢
  have hl : lv_has ls 2 [(0, .ref (ad (200 + si))), (1, .int (nI va))] := hl
  refine lv_iload_n hx hb dJ1_charAt_3b067_0 rfl (lv_at hl 1 rfl) ?_
  refine lv_aload_n hx hb dJ1_charAt_3b067_1 rfl (lv_at hl 0 rfl) ?_
  refine va_tlen (v := nI (sv_len.getD si 0)) hx hb (hEv.sv.2.1 si (by omega)).2.2.2 hS rfl dJ1_charAt_3b067_2 ?_
  have hql1 := sv_lt si
  refine va_callv (va_runS (As := [.int (nI va), .int (nI (sv_len.getD si 0))]) (rest := []) ⟨hx, hb, hml, hown, hts⟩ (x_J0_checkIndex_df160 l dC dI ad E hEE A C nb _ hN st sl so va (sv_len.getD si 0) (by omega) (by omega) hG.1 (by omega)) (va_cwS 2 hts gJ1_charAt_3b067_J0_checkIndex_df160 rfl rfl rfl (by decide +kernel) ⟨Nat.le_of_ble_eq_true rfl, Nat.le_of_ble_eq_true rfl⟩) ⟨fun a U g mk q => ⟨q.1, xPre.blind hEE q.2⟩, fun U hU hW => ⟨rfl, xPre.of hEE hP hK hE hS hU hW⟩⟩ rfl rfl hl.1 rfl (lv_room (Nat.le_of_ble_eq_true rfl)) dJ1_charAt_3b067_3 ⟨Nat.le_of_ble_eq_true rfl, Nat.le_of_ble_eq_true rfl⟩) hS (fun q _ h => XA.le hS.1 q h) (XA.le hS.1) (fun x t H locs ht hvm hw hB9 _ _ hS => ?_)
  have hP := xB.at ht hB9
  clear hB9 ht hvm
  obtain ⟨rfl, hw⟩ := hw
  have hP : va_P (dC, dI) vwCl (xw A C nb st sl so) _ := hP
  clear hw
  refine lv_aload_n hx hb dJ1_charAt_3b067_6 rfl (lv_at hl 0 rfl) ?_
  refine lv_iload_n hx hb dJ1_charAt_3b067_7 rfl (lv_at hl 1 rfl) ?_
  refine va_tb hx hb (hEv.sv.2.1 si (by omega)).2.2.2 hS (i := (nI va)) (vp_in_nI (by omega) (by omega)) rfl dJ1_charAt_3b067_8 ?_
  refine lv_topi (fun z3 ez3 => ?_)
  refine lv_sipush (v := 255) hx hb dJ1_charAt_3b067_9 (by decide) ?_
  refine lv_iand hx hb dJ1_charAt_3b067_12 ?_
  refine lv_topi (fun z4 ez4 => ?_)
  refine lv_i2c hx hb dJ1_charAt_3b067_13 rfl ?_
  refine lv_topi (fun z5 ez5 => ?_)
  exact W.zret (v := z5) hx hb hr (by rw [ez5]; exact pk_nc _) (fun t ht hW => ⟨⟨z5, (st, sl, so), rfl, ⟨rfl, by rw [ez5, ez4, ez3]; exact zz_chr (by omega) (by omega) hab⟩, xB.of ht hP⟩, hS.F ht⟩) hS.2.2 dJ1_charAt_3b067_14
set_option maxHeartbeats 4000000 in
set_option maxRecDepth 100000 in
theorem y_J0_charAt_5068e (l : Launch) (dC : Nat → ClassId) (dI : Nat → Nat → Nat) (ad : Nat → Nat) (E : EP) (hEE : EC ad E) (A : Nat → Nat) (C : Nat → ClassId) (nb sz : Nat) (hN : XN A) (st : Nat → Nat → Int32) (sl : Nat → Nat → Int64) (so : Nat → XR) (si : Nat) (va : Nat) (hsi : si < 30) (hva : va < 13) (hI : XI st) (hab : va < sv_len.getD si 0) (h24 : si < 24) : Met l yJ0_charAt_5068e wsJ0_charAt_5068e ({ frames := 3, cells := 0, slots := 0, locals := 64 }) (va_Pc [.ref (ad (100 + si)), .int (nI va)] (xPre E dC dI A C nb sz st sl so)) (va_Qi (fun (r : Int32) (x : XT) => x = (st, sl, so) ∧ (r = nI (kwB si va))) (xB dC dI A C nb) (XA A sz)) 0 0 (XA A sz) := by
  refine Met.ofW (cc := cJ0_charAt_5068e) (maxL := 2) (ret := (some .char)) (by decide) rfl ?_
  intro p9 e s m9 args below meth c9 s₁ B9 hml hv
  obtain ⟨rfl, hsz, hP, hK, hE⟩ := hv
  have hx := B9.exec
  have hb := B9.bytes
  have hr := B9.returns
  have hts := atoms_spec (ws := wsJ0_charAt_5068e) B9.pre
  have hown : s.vm.findClass RJ0 = some m9.cls := findClass_of_methodNamed B9.named
  subst hsz
  have hEv := hEE.1 _ _ _ hE
  have hS : va_S (XA A s.heap.size) s.heap s.heap [] := va_S.rf
  have hG : XG [1, 2, 3, 4, 5, 6, 7, 8, 9, 10, 11, 12, 13, 14, 15] st st := XG.rf hI
  have hl := lv_entry ([.ref (ad (100 + si)), .int (nI va)]) (n := 2) (Nat.le_of_ble_eq_true rfl)
  rw [lg_entry_eq]
  generalize (lg_sl ([.ref (ad (100 + si)), .int (nI va)]) ++ List.replicate (2 - (lg_sl ([.ref (ad (100 + si)), .int (nI va)])).length) Slot.unset).toArray = ls at hl ⊢
  have hl : lv_has ls 2 [(0, .ref (ad (100 + si))), (1, .int (nI va))] := hl
  have hk128 := (zz_chr0 si h24 va (by omega) hab).2
  refine lv_aload_n hx hb dJ0_charAt_5068e_0 rfl (lv_at hl 0 rfl) ?_
  refine va_calli (va_runV (As := []) (rest := []) ⟨hx, hb, hml, hown, hts⟩ (x_J0_isLatin1_aae02 l dC dI ad E hEE A C nb _ hN st sl so si (by omega) hG.1 ) (cwV 0 hts gJ0_charAt_5068e_J0_isLatin1_aae02 rfl rfl rfl (by decide +kernel) ⟨Nat.le_of_ble_eq_true rfl, Nat.le_of_ble_eq_true rfl⟩) ⟨fun a U g mk q => ⟨q.1, xPre.blind hEE q.2⟩, SV.recv hEv.sv hS (i := si) (by omega), fun U hU hW => ⟨rfl, xPre.of hEE hP hK hE hS hU hW⟩⟩ rfl rfl hl.1 rfl (lv_room (Nat.le_of_ble_eq_true rfl)) dJ0_charAt_5068e_1 ⟨Nat.le_of_ble_eq_true rfl, Nat.le_of_ble_eq_true rfl⟩) hS (fun q _ h => XA.le hS.1 q h) (XA.le hS.1) (fun r1 x t H locs ht hvm hw hB9 _ _ hS => ?_)
  have hP := xB.at ht hB9
  clear hB9 ht hvm
  obtain ⟨rfl, hw⟩ := hw
  have hP : va_P (dC, dI) vwCl (xw A C nb st sl so) _ := hP
  obtain rfl := hw
  refine lv_if_eq (tgt := 16) hx hb dJ0_charAt_5068e_4 (by decide) (fun cc => absurd cc (by decide)) (fun _ => ?_)
  refine lv_aload_n hx hb dJ0_charAt_5068e_7 rfl (lv_at hl 0 rfl) ?_
  refine vk_getf (v := .ref (ad (200 + si))) hx hb (hEv.sv.2.1 si (by omega)).2.2.1 hS hown (hts _ mm_J0_charAt_5068e_1) (fun _ hh => hh) dJ0_charAt_5068e_8 ?_
  refine lv_iload_n hx hb dJ0_charAt_5068e_11 rfl (lv_at hl 1 rfl) ?_
  refine va_calli (va_runS (As := [.ref (ad (200 + si)), .int (nI va)]) (rest := []) ⟨hx, hb, hml, hown, hts⟩ (y_J1_charAt_3b067 l dC dI ad E hEE A C nb _ hN st sl so si va (by omega) (by omega) hG.1 (hab) (h24)) (va_cwS 2 hts gJ0_charAt_5068e_J1_charAt_3b067 rfl rfl rfl (by decide +kernel) ⟨Nat.le_of_ble_eq_true rfl, Nat.le_of_ble_eq_true rfl⟩) ⟨fun a U g mk q => ⟨q.1, xPre.blind hEE q.2⟩, fun U hU hW => ⟨rfl, xPre.of hEE hP hK hE hS hU hW⟩⟩ rfl rfl hl.1 rfl (lv_room (Nat.le_of_ble_eq_true rfl)) dJ0_charAt_5068e_12 ⟨Nat.le_of_ble_eq_true rfl, Nat.le_of_ble_eq_true rfl⟩) hS (fun q _ h => XA.le hS.1 q h) (XA.le hS.1) (fun r2 x t H locs ht hvm hw hB9 _ _ hS => ?_)
  have hP := xB.at ht hB9
  clear hB9 ht hvm
  obtain ⟨rfl, hw⟩ := hw
  have hP : va_P (dC, dI) vwCl (xw A C nb st sl so) _ := hP
  obtain rfl := hw
  exact W.zret (v := (nI (kwB si va))) hx hb hr (zz_nc (by omega)) (fun t ht hW => ⟨⟨(nI (kwB si va)), (st, sl, so), rfl, ⟨rfl, rfl⟩, xB.of ht hP⟩, hS.F ht⟩) hS.2.2 dJ0_charAt_5068e_15
