set_option maxHeartbeats 4000000 in
set_option maxRecDepth 100000 in
theorem m_isIn (l : Launch) (dC : Nat → ClassId) (dI : Nat → Nat → Nat) (ar : Nat → Nat) (cy : Nat → ClassId) (sz : Nat) (hN : MN ar) (st : Nat → Nat → Int32) (sl : Nat → Nat → Int64) (vv : Int32) (va : Int32) (vb : Int32) (hI : MI st) : Met l yX12_isIn wsX12_isIn ({ frames := 0, cells := 0, slots := 0, locals := 0 }) (va_Pc [.int vv, .int va, .int vb] (mPre dC dI ar cy sz st sl)) (va_Qi (fun (r : Int32) (x : MT) => x = (st, sl) ∧ ((r = 1 ∧ va ≤ vv ∧ vv ≤ vb) ∨ (r = 0))) (mB dC dI ar cy) (MA ar sz)) 0 0 (MA ar sz) := by
  refine Met.ofW (cc := cX12_isIn) (maxL := 3) (ret := (some .boolean)) (by decide) rfl ?_
  intro p e s m args below meth c s₁ B hml hv
  obtain ⟨rfl, hsz, hP, hK⟩ := hv
  have hx := B.exec
  have hb := B.bytes
  have hr := B.returns
  have hts := atoms_spec (ws := wsX12_isIn) B.pre
  have hown : s.vm.findClass RX12 = some m.cls := findClass_of_methodNamed B.named
  subst hsz
  have hS : va_S (MA ar s.heap.size) s.heap s.heap [] := va_S.rf
  have hG : MG [1, 2, 3, 4, 5, 6, 7, 8, 9, 10, 11, 12, 13, 14, 15, 16, 17, 19, 20, 21, 22, 23] st st := MG.rf hI
  have hl := lv_entry ([.int vv, .int va, .int vb]) (n := 3) (Nat.le_of_ble_eq_true rfl)
  rw [lg_entry_eq]
  generalize (lg_sl ([.int vv, .int va, .int vb]) ++ List.replicate (3 - (lg_sl ([.int vv, .int va, .int vb])).length) Slot.unset).toArray = ls at hl ⊢
  have hl : lv_has ls 3 [(0, .int vv), (1, .int va), (2, .int vb)] := hl
  clear hI
  refine lv_iload_n hx hb dX12_isIn_0 rfl (lv_at hl 0 rfl) ?_
  refine lv_iload_n hx hb dX12_isIn_1 rfl (lv_at hl 1 rfl) ?_
  refine lv_icmp_lt (tgt := 14) hx hb dX12_isIn_2 (by decide) (fun c1 => ?_) (fun c1 => ?_)
  · refine lv_iconst (v := 0) hx hb dX12_isIn_14 (by decide) ?_
    exact W.zret (v := 0) hx hb hr rfl (fun t ht hW => ⟨⟨0, (st, sl), rfl, ⟨rfl, Or.inr (rfl)⟩, mB.of ht hP⟩, hS.F ht⟩) hS.2.2 dX12_isIn_15
  · refine lv_iload_n hx hb dX12_isIn_5 rfl (lv_at hl 0 rfl) ?_
    refine lv_iload_n hx hb dX12_isIn_6 rfl (lv_at hl 2 rfl) ?_
    refine lv_icmp_gt (tgt := 14) hx hb dX12_isIn_7 (by decide) (fun c2 => ?_) (fun c2 => ?_)
    · refine lv_iconst (v := 0) hx hb dX12_isIn_14 (by decide) ?_
      exact W.zret (v := 0) hx hb hr rfl (fun t ht hW => ⟨⟨0, (st, sl), rfl, ⟨rfl, Or.inr (rfl)⟩, mB.of ht hP⟩, hS.F ht⟩) hS.2.2 dX12_isIn_15
    · refine lv_iconst (v := 1) hx hb dX12_isIn_10 (by decide) ?_
      refine lv_goto (tgt := 15) hx hb dX12_isIn_11 (by decide) ?_
      exact W.zret (v := 1) hx hb hr rfl (fun t ht hW => ⟨⟨1, (st, sl), rfl, ⟨rfl, Or.inl (⟨rfl, Int32.not_lt.mp c1, Int32.not_lt.mp c2⟩)⟩, mB.of ht hP⟩, hS.F ht⟩) hS.2.2 dX12_isIn_15
set_option maxHeartbeats 4000000 in
set_option maxRecDepth 100000 in
theorem m_has (l : Launch) (dC : Nat → ClassId) (dI : Nat → Nat → Nat) (ar : Nat → Nat) (cy : Nat → ClassId) (sz : Nat) (hN : MN ar) (st : Nat → Nat → Int32) (sl : Nat → Nat → Int64) (va : Int32) (vb : Int32) (hI : MI st) : Met l yX12_has wsX12_has ({ frames := 0, cells := 0, slots := 0, locals := 0 }) (va_Pc [.int va, .int vb] (mPre dC dI ar cy sz st sl)) (va_Qi (fun (r : Int32) (x : MT) => x = (st, sl) ∧ ((r = 1) ∨ (r = 0))) (mB dC dI ar cy) (MA ar sz)) 0 0 (MA ar sz) := by
  refine Met.ofW (cc := cX12_has) (maxL := 2) (ret := (some .boolean)) (by decide) rfl ?_
  intro p e s m args below meth c s₁ B hml hv
  obtain ⟨rfl, hsz, hP, hK⟩ := hv
  have hx := B.exec
  have hb := B.bytes
  have hr := B.returns
  have hts := atoms_spec (ws := wsX12_has) B.pre
  have hown : s.vm.findClass RX12 = some m.cls := findClass_of_methodNamed B.named
  subst hsz
  have hS : va_S (MA ar s.heap.size) s.heap s.heap [] := va_S.rf
  have hG : MG [1, 2, 3, 4, 5, 6, 7, 8, 9, 10, 11, 12, 13, 14, 15, 16, 17, 19, 20, 21, 22, 23] st st := MG.rf hI
  have hl := lv_entry ([.int va, .int vb]) (n := 2) (Nat.le_of_ble_eq_true rfl)
  rw [lg_entry_eq]
  generalize (lg_sl ([.int va, .int vb]) ++ List.replicate (2 - (lg_sl ([.int va, .int vb])).length) Slot.unset).toArray = ls at hl ⊢
  have hl : lv_has ls 2 [(0, .int va), (1, .int vb)] := hl
  clear hI
  refine lv_iload_n hx hb dX12_has_0 rfl (lv_at hl 0 rfl) ?_
  refine lv_iload_n hx hb dX12_has_1 rfl (lv_at hl 1 rfl) ?_
  refine lv_ishr hx hb dX12_has_2 ?_
  refine lv_topi (fun z1 ez1 => ?_)
  clear ez1
  refine lv_iconst (v := 1) hx hb dX12_has_3 (by decide) ?_
  refine lv_iand hx hb dX12_has_4 ?_
  refine lv_topi (fun z2 ez2 => ?_)
  clear ez2
  refine lv_iconst (v := 1) hx hb dX12_has_5 (by decide) ?_
  refine lv_icmp_ne (tgt := 13) hx hb dX12_has_6 (by decide) (fun c1 => ?_) (fun c1 => ?_)
  · refine lv_iconst (v := 0) hx hb dX12_has_13 (by decide) ?_
    exact W.zret (v := 0) hx hb hr rfl (fun t ht hW => ⟨⟨0, (st, sl), rfl, ⟨rfl, Or.inr (rfl)⟩, mB.of ht hP⟩, hS.F ht⟩) hS.2.2 dX12_has_14
  · refine lv_iconst (v := 1) hx hb dX12_has_9 (by decide) ?_
    refine lv_goto (tgt := 14) hx hb dX12_has_10 (by decide) ?_
    exact W.zret (v := 1) hx hb hr rfl (fun t ht hW => ⟨⟨1, (st, sl), rfl, ⟨rfl, Or.inl (rfl)⟩, mB.of ht hP⟩, hS.F ht⟩) hS.2.2 dX12_has_14
set_option maxHeartbeats 4000000 in
set_option maxRecDepth 100000 in
theorem m_least (l : Launch) (dC : Nat → ClassId) (dI : Nat → Nat → Nat) (ar : Nat → Nat) (cy : Nat → ClassId) (sz : Nat) (hN : MN ar) (st : Nat → Nat → Int32) (sl : Nat → Nat → Int64) (va : Int32) (vb : Int32) (hI : MI st) : Met l yX12_least wsX12_least ({ frames := 0, cells := 0, slots := 0, locals := 0 }) (va_Pc [.int va, .int vb] (mPre dC dI ar cy sz st sl)) (va_Qi (fun (r : Int32) (x : MT) => x = (st, sl) ∧ (True)) (mB dC dI ar cy) (MA ar sz)) 0 0 (MA ar sz) := by
  refine Met.ofW (cc := cX12_least) (maxL := 2) (ret := (some .int)) (by decide) rfl ?_
  intro p e s m args below meth c s₁ B hml hv
  obtain ⟨rfl, hsz, hP, hK⟩ := hv
  have hx := B.exec
  have hb := B.bytes
  have hr := B.returns
  have hts := atoms_spec (ws := wsX12_least) B.pre
  have hown : s.vm.findClass RX12 = some m.cls := findClass_of_methodNamed B.named
  subst hsz
  have hS : va_S (MA ar s.heap.size) s.heap s.heap [] := va_S.rf
  have hG : MG [1, 2, 3, 4, 5, 6, 7, 8, 9, 10, 11, 12, 13, 14, 15, 16, 17, 19, 20, 21, 22, 23] st st := MG.rf hI
  have hl := lv_entry ([.int va, .int vb]) (n := 2) (Nat.le_of_ble_eq_true rfl)
  rw [lg_entry_eq]
  generalize (lg_sl ([.int va, .int vb]) ++ List.replicate (2 - (lg_sl ([.int va, .int vb])).length) Slot.unset).toArray = ls at hl ⊢
  have hl : lv_has ls 2 [(0, .int va), (1, .int vb)] := hl
  clear hI
  refine lv_iload_n hx hb dX12_least_0 rfl (lv_at hl 0 rfl) ?_
  refine lv_iload_n hx hb dX12_least_1 rfl (lv_at hl 1 rfl) ?_
  refine lv_icmp_ge (tgt := 9) hx hb dX12_least_2 (by decide) (fun c1 => ?_) (fun c1 => ?_)
  · refine lv_iload_n hx hb dX12_least_9 rfl (lv_at hl 1 rfl) ?_
    exact W.iret (v := vb) hx hb hr (fun t ht hW => ⟨⟨vb, (st, sl), rfl, ⟨rfl, trivial⟩, mB.of ht hP⟩, hS.F ht⟩) hS.2.2 dX12_least_10
  · refine lv_iload_n hx hb dX12_least_5 rfl (lv_at hl 0 rfl) ?_
    refine lv_goto (tgt := 10) hx hb dX12_least_6 (by decide) ?_
    exact W.iret (v := va) hx hb hr (fun t ht hW => ⟨⟨va, (st, sl), rfl, ⟨rfl, trivial⟩, mB.of ht hP⟩, hS.F ht⟩) hS.2.2 dX12_least_10
set_option maxHeartbeats 4000000 in
set_option maxRecDepth 100000 in
theorem m_isDigit (l : Launch) (dC : Nat → ClassId) (dI : Nat → Nat → Nat) (ar : Nat → Nat) (cy : Nat → ClassId) (sz : Nat) (hN : MN ar) (st : Nat → Nat → Int32) (sl : Nat → Nat → Int64) (vc : Int32) (hI : MI st) : Met l yX12_isDigit wsX12_isDigit ({ frames := 0, cells := 0, slots := 0, locals := 0 }) (va_Pc [.int vc] (mPre dC dI ar cy sz st sl)) (va_Qi (fun (r : Int32) (x : MT) => x = (st, sl) ∧ ((r = 1 ∧ 48 ≤ vc) ∨ (r = 0))) (mB dC dI ar cy) (MA ar sz)) 0 0 (MA ar sz) := by
  refine Met.ofW (cc := cX12_isDigit) (maxL := 1) (ret := (some .boolean)) (by decide) rfl ?_
  intro p e s m args below meth c s₁ B hml hv
  obtain ⟨rfl, hsz, hP, hK⟩ := hv
  have hx := B.exec
  have hb := B.bytes
  have hr := B.returns
  have hts := atoms_spec (ws := wsX12_isDigit) B.pre
  have hown : s.vm.findClass RX12 = some m.cls := findClass_of_methodNamed B.named
  subst hsz
  have hS : va_S (MA ar s.heap.size) s.heap s.heap [] := va_S.rf
  have hG : MG [1, 2, 3, 4, 5, 6, 7, 8, 9, 10, 11, 12, 13, 14, 15, 16, 17, 19, 20, 21, 22, 23] st st := MG.rf hI
  have hl := lv_entry ([.int vc]) (n := 1) (Nat.le_of_ble_eq_true rfl)
  rw [lg_entry_eq]
  generalize (lg_sl ([.int vc]) ++ List.replicate (1 - (lg_sl ([.int vc])).length) Slot.unset).toArray = ls at hl ⊢
  have hl : lv_has ls 1 [(0, .int vc)] := hl
  clear hI
  refine lv_iload_n hx hb dX12_isDigit_0 rfl (lv_at hl 0 rfl) ?_
  refine lv_bipush (v := 48) hx hb dX12_isDigit_1 (by decide) ?_
  refine lv_icmp_lt (tgt := 16) hx hb dX12_isDigit_3 (by decide) (fun c1 => ?_) (fun c1 => ?_)
  · refine lv_iconst (v := 0) hx hb dX12_isDigit_16 (by decide) ?_
    exact W.zret (v := 0) hx hb hr rfl (fun t ht hW => ⟨⟨0, (st, sl), rfl, ⟨rfl, Or.inr (rfl)⟩, mB.of ht hP⟩, hS.F ht⟩) hS.2.2 dX12_isDigit_17
  · refine lv_iload_n hx hb dX12_isDigit_6 rfl (lv_at hl 0 rfl) ?_
    refine lv_bipush (v := 57) hx hb dX12_isDigit_7 (by decide) ?_
    refine lv_icmp_gt (tgt := 16) hx hb dX12_isDigit_9 (by decide) (fun c2 => ?_) (fun c2 => ?_)
    · refine lv_iconst (v := 0) hx hb dX12_isDigit_16 (by decide) ?_
      exact W.zret (v := 0) hx hb hr rfl (fun t ht hW => ⟨⟨0, (st, sl), rfl, ⟨rfl, Or.inr (rfl)⟩, mB.of ht hP⟩, hS.F ht⟩) hS.2.2 dX12_isDigit_17
    · refine lv_iconst (v := 1) hx hb dX12_isDigit_12 (by decide) ?_
      refine lv_goto (tgt := 17) hx hb dX12_isDigit_13 (by decide) ?_
      exact W.zret (v := 1) hx hb hr rfl (fun t ht hW => ⟨⟨1, (st, sl), rfl, ⟨rfl, Or.inl (⟨rfl, Int32.not_lt.mp c1⟩)⟩, mB.of ht hP⟩, hS.F ht⟩) hS.2.2 dX12_isDigit_17
set_option maxHeartbeats 4000000 in
set_option maxRecDepth 100000 in
theorem m_isLetter (l : Launch) (dC : Nat → ClassId) (dI : Nat → Nat → Nat) (ar : Nat → Nat) (cy : Nat → ClassId) (sz : Nat) (hN : MN ar) (st : Nat → Nat → Int32) (sl : Nat → Nat → Int64) (vc : Int32) (hI : MI st) : Met l yX12_isLetter wsX12_isLetter ({ frames := 0, cells := 0, slots := 0, locals := 0 }) (va_Pc [.int vc] (mPre dC dI ar cy sz st sl)) (va_Qi (fun (r : Int32) (x : MT) => x = (st, sl) ∧ ((r = 1 ∧ 97 ≤ vc) ∨ (r = 0))) (mB dC dI ar cy) (MA ar sz)) 0 0 (MA ar sz) := by
  refine Met.ofW (cc := cX12_isLetter) (maxL := 1) (ret := (some .boolean)) (by decide) rfl ?_
  intro p e s m args below meth c s₁ B hml hv
  obtain ⟨rfl, hsz, hP, hK⟩ := hv
  have hx := B.exec
  have hb := B.bytes
  have hr := B.returns
  have hts := atoms_spec (ws := wsX12_isLetter) B.pre
  have hown : s.vm.findClass RX12 = some m.cls := findClass_of_methodNamed B.named
  subst hsz
  have hS : va_S (MA ar s.heap.size) s.heap s.heap [] := va_S.rf
  have hG : MG [1, 2, 3, 4, 5, 6, 7, 8, 9, 10, 11, 12, 13, 14, 15, 16, 17, 19, 20, 21, 22, 23] st st := MG.rf hI
  have hl := lv_entry ([.int vc]) (n := 1) (Nat.le_of_ble_eq_true rfl)
  rw [lg_entry_eq]
  generalize (lg_sl ([.int vc]) ++ List.replicate (1 - (lg_sl ([.int vc])).length) Slot.unset).toArray = ls at hl ⊢
  have hl : lv_has ls 1 [(0, .int vc)] := hl
  clear hI
  refine lv_iload_n hx hb dX12_isLetter_0 rfl (lv_at hl 0 rfl) ?_
  refine lv_bipush (v := 97) hx hb dX12_isLetter_1 (by decide) ?_
  refine lv_icmp_lt (tgt := 16) hx hb dX12_isLetter_3 (by decide) (fun c1 => ?_) (fun c1 => ?_)
  · refine lv_iconst (v := 0) hx hb dX12_isLetter_16 (by decide) ?_
    exact W.zret (v := 0) hx hb hr rfl (fun t ht hW => ⟨⟨0, (st, sl), rfl, ⟨rfl, Or.inr (rfl)⟩, mB.of ht hP⟩, hS.F ht⟩) hS.2.2 dX12_isLetter_17
  · refine lv_iload_n hx hb dX12_isLetter_6 rfl (lv_at hl 0 rfl) ?_
    refine lv_bipush (v := 122) hx hb dX12_isLetter_7 (by decide) ?_
    refine lv_icmp_gt (tgt := 16) hx hb dX12_isLetter_9 (by decide) (fun c2 => ?_) (fun c2 => ?_)
    · refine lv_iconst (v := 0) hx hb dX12_isLetter_16 (by decide) ?_
      exact W.zret (v := 0) hx hb hr rfl (fun t ht hW => ⟨⟨0, (st, sl), rfl, ⟨rfl, Or.inr (rfl)⟩, mB.of ht hP⟩, hS.F ht⟩) hS.2.2 dX12_isLetter_17
    · refine lv_iconst (v := 1) hx hb dX12_isLetter_12 (by decide) ?_
      refine lv_goto (tgt := 17) hx hb dX12_isLetter_13 (by decide) ?_
      exact W.zret (v := 1) hx hb hr rfl (fun t ht hW => ⟨⟨1, (st, sl), rfl, ⟨rfl, Or.inl (⟨rfl, Int32.not_lt.mp c1⟩)⟩, mB.of ht hP⟩, hS.F ht⟩) hS.2.2 dX12_isLetter_17
set_option maxHeartbeats 4000000 in
set_option maxRecDepth 100000 in
theorem m_hoursIn (l : Launch) (dC : Nat → ClassId) (dI : Nat → Nat → Nat) (ar : Nat → Nat) (cy : Nat → ClassId) (sz : Nat) (hN : MN ar) (st : Nat → Nat → Int32) (sl : Nat → Nat → Int64) (va : Int32) (vb : Int32) (hI : MI st) : Met l yX12_hoursIn wsX12_hoursIn ({ frames := 0, cells := 0, slots := 0, locals := 0 }) (va_Pc [.int va, .int vb] (mPre dC dI ar cy sz st sl)) (va_Qi (fun (r : Int32) (x : MT) => x = (st, sl) ∧ (True)) (mB dC dI ar cy) (MA ar sz)) 0 0 (MA ar sz) := by
  refine Met.ofW (cc := cX12_hoursIn) (maxL := 2) (ret := (some .int)) (by decide) rfl ?_
  intro p e s m args below meth c s₁ B hml hv
  obtain ⟨rfl, hsz, hP, hK⟩ := hv
  have hx := B.exec
  have hb := B.bytes
  have hr := B.returns
  have hts := atoms_spec (ws := wsX12_hoursIn) B.pre
  have hown : s.vm.findClass RX12 = some m.cls := findClass_of_methodNamed B.named
  subst hsz
  have hS : va_S (MA ar s.heap.size) s.heap s.heap [] := va_S.rf
  have hG : MG [1, 2, 3, 4, 5, 6, 7, 8, 9, 10, 11, 12, 13, 14, 15, 16, 17, 19, 20, 21, 22, 23] st st := MG.rf hI
  have hl := lv_entry ([.int va, .int vb]) (n := 2) (Nat.le_of_ble_eq_true rfl)
  rw [lg_entry_eq]
  generalize (lg_sl ([.int va, .int vb]) ++ List.replicate (2 - (lg_sl ([.int va, .int vb])).length) Slot.unset).toArray = ls at hl ⊢
  have hl : lv_has ls 2 [(0, .int va), (1, .int vb)] := hl
  clear hI
  refine lv_iconst (v := 1) hx hb dX12_hoursIn_0 (by decide) ?_
  refine lv_iload_n hx hb dX12_hoursIn_1 rfl (lv_at hl 1 rfl) ?_
  refine lv_iconst (v := 1) hx hb dX12_hoursIn_2 (by decide) ?_
  refine lv_iadd hx hb dX12_hoursIn_3 ?_
  refine lv_topi (fun z1 ez1 => ?_)
  clear ez1
  refine lv_ishl hx hb dX12_hoursIn_4 ?_
  refine lv_topi (fun z2 ez2 => ?_)
  clear ez2
  refine lv_iconst (v := 1) hx hb dX12_hoursIn_5 (by decide) ?_
  refine lv_iload_n hx hb dX12_hoursIn_6 rfl (lv_at hl 0 rfl) ?_
  refine lv_ishl hx hb dX12_hoursIn_7 ?_
  refine lv_topi (fun z3 ez3 => ?_)
  clear ez3
  refine lv_isub hx hb dX12_hoursIn_8 ?_
  refine lv_topi (fun z4 ez4 => ?_)
  clear ez4
  exact W.iret (v := z4) hx hb hr (fun t ht hW => ⟨⟨z4, (st, sl), rfl, ⟨rfl, trivial⟩, mB.of ht hP⟩, hS.F ht⟩) hS.2.2 dX12_hoursIn_9
set_option maxHeartbeats 4000000 in
set_option maxRecDepth 100000 in
theorem m_bits (l : Launch) (dC : Nat → ClassId) (dI : Nat → Nat → Nat) (ar : Nat → Nat) (cy : Nat → ClassId) (sz : Nat) (hN : MN ar) (st : Nat → Nat → Int32) (sl : Nat → Nat → Int64) (va : Int32) (hI : MI st) : Met l yX12_bits wsX12_bits ({ frames := 0, cells := 0, slots := 0, locals := 0 }) (va_Pc [.int va] (mPre dC dI ar cy sz st sl)) (va_Qi (fun (r : Int32) (x : MT) => x = (st, sl) ∧ (True)) (mB dC dI ar cy) (MA ar sz)) 0 0 (MA ar sz) := by
  refine Met.ofW (cc := cX12_bits) (maxL := 3) (ret := (some .int)) (by decide) rfl ?_
  intro p e s m args below meth c s₁ B hml hv
  obtain ⟨rfl, hsz, hP, hK⟩ := hv
  have hx := B.exec
  have hb := B.bytes
  have hr := B.returns
  have hts := atoms_spec (ws := wsX12_bits) B.pre
  have hown : s.vm.findClass RX12 = some m.cls := findClass_of_methodNamed B.named
  subst hsz
  have hS : va_S (MA ar s.heap.size) s.heap s.heap [] := va_S.rf
  have hG : MG [1, 2, 3, 4, 5, 6, 7, 8, 9, 10, 11, 12, 13, 14, 15, 16, 17, 19, 20, 21, 22, 23] st st := MG.rf hI
  have hl := lv_entry ([.int va]) (n := 3) (Nat.le_of_ble_eq_true rfl)
  rw [lg_entry_eq]
  generalize (lg_sl ([.int va]) ++ List.replicate (3 - (lg_sl ([.int va])).length) Slot.unset).toArray = ls at hl ⊢
  have hl : lv_has ls 3 [(0, .int va)] := hl
  clear hI
  refine lv_iconst (v := 0) hx hb dX12_bits_0 (by decide) ?_
  refine lv_istore_n (lv' := [(1, .int 0), (0, .int va)]) hx hb dX12_bits_1 rfl hl (by decide) rfl (fun ls hl => ?_)
  refine lv_iload_n hx hb dX12_bits_2 rfl (lv_at hl 1 rfl) ?_
  refine lv_istore_n (lv' := [(2, .int va), (1, .int 0), (0, .int va)]) hx hb dX12_bits_3 rfl hl (by decide) rfl (fun ls hl => ?_)
  refine zz_wf (fun n stk H locs ls => ∃ z1 : Int32, ∃ z2 : Int32, n = z1.toBitVec.toNat ∧ va_P (dC, dI) vwCl (mw ar cy st sl) H ∧ va_S (MA ar s.heap.size) s.heap H locs ∧ lv_has ls 3 [(2, .int z1), (1, .int z2), (0, .int va)] ∧ stk = []) ?_ (va.toBitVec.toNat) _ _ _ _ ⟨va, 0, rfl, hP, hS, lv_sub hl [0, 1, 2] rfl, rfl⟩
  rintro nn stk H locs ls ⟨z1, z2, hm2, hP, hS, hl, rfl⟩ ih3
  refine lv_iload_n hx hb dX12_bits_4 rfl (lv_at hl 0 rfl) ?_
  refine lv_if_eq (tgt := 20) hx hb dX12_bits_5 (by decide) (fun c1 => ?_) (fun c1 => ?_)
  · refine lv_iload_n hx hb dX12_bits_20 rfl (lv_at hl 1 rfl) ?_
    exact W.iret (v := z2) hx hb hr (fun t ht hW => ⟨⟨z2, (st, sl), rfl, ⟨rfl, trivial⟩, mB.of ht hP⟩, hS.F ht⟩) hS.2.2 dX12_bits_21
  · obtain ⟨z4, ez4⟩ : ∃ y : Int32, y = z2 + 1 := ⟨_, rfl⟩
    refine lv_iinc (v := z4) (lv' := [(1, .int z4), (2, .int z1), (0, .int va)]) hx hb dX12_bits_8 hl (k := 1) rfl (by rw [ez4]; rfl) (by decide) rfl (fun ls hl => ?_)
    refine lv_iload_n hx hb dX12_bits_11 rfl (lv_at hl 1 rfl) ?_
    refine lv_iload_n hx hb dX12_bits_12 rfl (lv_at hl 1 rfl) ?_
    refine lv_iconst (v := 1) hx hb dX12_bits_13 (by decide) ?_
    refine lv_isub hx hb dX12_bits_14 ?_
    refine lv_topi (fun z5 ez5 => ?_)
    refine lv_iand hx hb dX12_bits_15 ?_
    refine lv_topi (fun z6 ez6 => ?_)
    refine lv_istore_n (lv' := [(2, .int z6), (1, .int z4), (0, .int va)]) hx hb dX12_bits_16 rfl hl (by decide) rfl (fun ls hl => ?_)
    refine lv_goto (tgt := 4) hx hb dX12_bits_17 (by decide) ?_
    exact ih3 (z6.toBitVec.toNat) _ _ _ _ (by rw [hm2]; exact zz_bits ez5 ez6 c1) ⟨z6, z4, rfl, hP, hS, lv_sub hl [0, 1, 2] rfl, rfl⟩
set_option maxHeartbeats 4000000 in
set_option maxRecDepth 100000 in
theorem m_refuse (l : Launch) (dC : Nat → ClassId) (dI : Nat → Nat → Nat) (ar : Nat → Nat) (cy : Nat → ClassId) (sz : Nat) (hN : MN ar) (st : Nat → Nat → Int32) (sl : Nat → Nat → Int64) (hI : MI st) : Met l yX12_refuse wsX12_refuse ({ frames := 0, cells := 0, slots := 0, locals := 0 }) (va_Pc [.ref (ar 0)] (mPre dC dI ar cy sz st sl)) (va_Qi (fun (r : Int32) (x : MT) => MG [1, 2, 3, 4, 5, 6, 7, 8, 9, 10, 11, 12, 13, 14, 15, 16, 17, 19, 20, 21, 22, 23] st x.1 ∧ LQ [7, 9] sl x.2 ∧ (r = 0)) (mB dC dI ar cy) (MA ar sz)) 0 0 (MA ar sz) := by
  refine Met.ofW (cc := cX12_refuse) (maxL := 1) (ret := (some .int)) (by decide) rfl ?_
  intro p e s m args below meth c s₁ B hml hv
  obtain ⟨rfl, hsz, hP, hK⟩ := hv
  have hx := B.exec
  have hb := B.bytes
  have hr := B.returns
  have hts := atoms_spec (ws := wsX12_refuse) B.pre
  have hown : s.vm.findClass RX12 = some m.cls := findClass_of_methodNamed B.named
  subst hsz
  have hS : va_S (MA ar s.heap.size) s.heap s.heap [] := va_S.rf
  have hG : MG [1, 2, 3, 4, 5, 6, 7, 8, 9, 10, 11, 12, 13, 14, 15, 16, 17, 19, 20, 21, 22, 23] st st := MG.rf hI
  have hl := lv_entry ([.ref (ar 0)]) (n := 1) (Nat.le_of_ble_eq_true rfl)
  rw [lg_entry_eq]
  generalize (lg_sl ([.ref (ar 0)]) ++ List.replicate (1 - (lg_sl ([.ref (ar 0)])).length) Slot.unset).toArray = ls at hl ⊢
  have hl : lv_has ls 1 [(0, .ref (ar 0))] := hl
  clear hI
  have hL : LQ [7, 9] sl sl := LQ.rf
  refine lv_aload_n hx hb dX12_refuse_0 rfl (lv_at hl 0 rfl) ?_
  refine lv_iconst (v := 1) hx hb dX12_refuse_1 (by decide) ?_
  refine va_put (D := (dC, dI)) (ci := 11) (v := .int 1) (ty := .int) (C := RX12) (T := TX12) (N := 47) hx hb hts ii_X12_refuse tyX12 tyX12_ok nmX12 hown hK hP (mD hN _ _ _ _) hS 0 rfl rfl 0 (by decide) (hts _ mm_X12_refuse_1) (fun _ hh => hh) rfl (by decide +kernel) rfl rfl (Nat.le_of_ble_eq_true rfl) dX12_refuse_2 (fun H locs hP _ hS => ?_)
  have hP : va_P (dC, dI) vwCl (mw ar cy (up2 st 0 0 1) sl) H := hP
  obtain ⟨st1, hP, hG⟩ : ∃ y, va_P (dC, dI) vwCl (mw ar cy y sl) H ∧ MG [1, 2, 3, 4, 5, 6, 7, 8, 9, 10, 11, 12, 13, 14, 15, 16, 17, 19, 20, 21, 22, 23] st y := ⟨up2 st 0 0 1, hP, hG.up (rz (by decide : mr 0 0 = 0)) (pn (by decide : pcl 0 0 = 0) (by decide))⟩
  refine lv_iconst (v := 0) hx hb dX12_refuse_5 (by decide) ?_
  exact W.iret (v := 0) hx hb hr (fun t ht hW => ⟨⟨0, (st1, sl), rfl, ⟨hG, hL, rfl⟩, mB.of ht hP⟩, hS.F ht⟩) hS.2.2 dX12_refuse_6
set_option maxHeartbeats 4000000 in
set_option maxRecDepth 100000 in
theorem m_isPlace (l : Launch) (dC : Nat → ClassId) (dI : Nat → Nat → Nat) (ar : Nat → Nat) (cy : Nat → ClassId) (sz : Nat) (hN : MN ar) (st : Nat → Nat → Int32) (sl : Nat → Nat → Int64) (va : Int32) (hI : MI st) : Met l yX12_isPlace wsX12_isPlace ({ frames := 1, cells := 0, slots := 0, locals := 22 }) (va_Pc [.ref (ar 0), .int va] (mPre dC dI ar cy sz st sl)) (va_Qi (fun (r : Int32) (x : MT) => x = (st, sl) ∧ ((∃ n : Nat, r = 1 ∧ n < 5 ∧ va = nI n) ∨ (r = 0))) (mB dC dI ar cy) (MA ar sz)) 0 0 (MA ar sz) := by
  refine Met.ofW (cc := cX12_isPlace) (maxL := 2) (ret := (some .boolean)) (by decide) rfl ?_
  intro p e s m args below meth c s₁ B hml hv
  obtain ⟨rfl, hsz, hP, hK⟩ := hv
  have hx := B.exec
  have hb := B.bytes
  have hr := B.returns
  have hts := atoms_spec (ws := wsX12_isPlace) B.pre
  have hown : s.vm.findClass RX12 = some m.cls := findClass_of_methodNamed B.named
  subst hsz
  have hS : va_S (MA ar s.heap.size) s.heap s.heap [] := va_S.rf
  have hG : MG [1, 2, 3, 4, 5, 6, 7, 8, 9, 10, 11, 12, 13, 14, 15, 16, 17, 19, 20, 21, 22, 23] st st := MG.rf hI
  have hl := lv_entry ([.ref (ar 0), .int va]) (n := 2) (Nat.le_of_ble_eq_true rfl)
  rw [lg_entry_eq]
  generalize (lg_sl ([.ref (ar 0), .int va]) ++ List.replicate (2 - (lg_sl ([.ref (ar 0), .int va])).length) Slot.unset).toArray = ls at hl ⊢
  have hl : lv_has ls 2 [(0, .ref (ar 0)), (1, .int va)] := hl
  clear hI
  refine lv_iload_n hx hb dX12_isPlace_0 rfl (lv_at hl 1 rfl) ?_
  refine lv_iconst (v := 0) hx hb dX12_isPlace_1 (by decide) ?_
  refine lv_aload_n hx hb dX12_isPlace_2 rfl (lv_at hl 0 rfl) ?_
  refine va_get (D := (dC, dI)) (ci := 11) (v := .ref (ar 2)) (C := RX12) (T := TX12) (N := 47) hx hb hts ii_X12_isPlace hown hK hP 0 rfl rfl 14 (by decide) (hts _ mm_X12_isPlace_1) (fun _ hh => hh) rfl dX12_isPlace_3 ?_
  refine lv_iconst (v := 0) hx hb dX12_isPlace_6 (by decide) ?_
  refine va_iald hx hb hK hP 2 1 rfl rfl (i := 0) (zz_in (by decide)) dX12_isPlace_7 ?_
  obtain ⟨n1, hn1, en1⟩ := hG.1.at (r := 2) (k := 0) (by decide : mr 2 0 = 6) (by decide)
  refine zz_top (v := nI n1) (by exact en1) ?_
  clear en1
  refine lv_iconst (v := 1) hx hb dX12_isPlace_8 (by decide) ?_
  refine lv_isub hx hb dX12_isPlace_9 ?_
  refine lv_topi (fun z2 ez2 => ?_)
  refine va_calli (va_runS (As := [.int va, .int 0, .int z2]) (rest := []) ⟨hx, hb, hml, hown, hts⟩ (m_isIn l dC dI ar cy _ hN st sl va 0 z2  hG.1) (va_cwS 3 hts gX12_isPlace_X12_isIn rfl rfl rfl (by decide +kernel) ⟨Nat.le_of_ble_eq_true rfl, Nat.le_of_ble_eq_true rfl⟩) ⟨fun a U g mk q => ⟨q.1, mPre.blind q.2⟩, fun U hU hW => ⟨rfl, mPre.of hP hK hU hW⟩⟩ rfl rfl hl.1 rfl (lv_room (Nat.le_of_ble_eq_true rfl)) dX12_isPlace_10 ⟨Nat.le_of_ble_eq_true rfl, Nat.le_of_ble_eq_true rfl⟩) hS (fun q _ h => MA.le hS.1 q h) (MA.le hS.1) (fun r3 x t H locs ht hvm hw hB _ _ hS => ?_)
  have hP := mB.at ht hB
  clear hB ht hvm
  obtain ⟨rfl, hw⟩ := hw
  have hP : va_P (dC, dI) vwCl (mw ar cy st sl) _ := hP
  rcases hw with ⟨rfl, hf4, hf5⟩ | rfl
  · obtain ⟨n6, hn6, rfl⟩ := zz_inidx (a := n1) (by omega) hf4 (by rw [← ez2]; exact hf5)
    exact W.zret (v := 1) hx hb hr rfl (fun t ht hW => ⟨⟨1, (st, sl), rfl, ⟨rfl, Or.inl ⟨_, rfl, by omega, rfl⟩⟩, mB.of ht hP⟩, hS.F ht⟩) hS.2.2 dX12_isPlace_13
  · exact W.zret (v := 0) hx hb hr rfl (fun t ht hW => ⟨⟨0, (st, sl), rfl, ⟨rfl, Or.inr (rfl)⟩, mB.of ht hP⟩, hS.F ht⟩) hS.2.2 dX12_isPlace_13
set_option maxHeartbeats 4000000 in
set_option maxRecDepth 100000 in
theorem m_isPerson (l : Launch) (dC : Nat → ClassId) (dI : Nat → Nat → Nat) (ar : Nat → Nat) (cy : Nat → ClassId) (sz : Nat) (hN : MN ar) (st : Nat → Nat → Int32) (sl : Nat → Nat → Int64) (va : Int32) (hI : MI st) : Met l yX12_isPerson wsX12_isPerson ({ frames := 1, cells := 0, slots := 0, locals := 22 }) (va_Pc [.ref (ar 0), .int va] (mPre dC dI ar cy sz st sl)) (va_Qi (fun (r : Int32) (x : MT) => x = (st, sl) ∧ ((∃ n : Nat, r = 1 ∧ n < 8 ∧ va = nI n) ∨ (r = 0))) (mB dC dI ar cy) (MA ar sz)) 0 0 (MA ar sz) := by
  refine Met.ofW (cc := cX12_isPerson) (maxL := 2) (ret := (some .boolean)) (by decide) rfl ?_
  intro p e s m args below meth c s₁ B hml hv
  obtain ⟨rfl, hsz, hP, hK⟩ := hv
  have hx := B.exec
  have hb := B.bytes
  have hr := B.returns
  have hts := atoms_spec (ws := wsX12_isPerson) B.pre
  have hown : s.vm.findClass RX12 = some m.cls := findClass_of_methodNamed B.named
  subst hsz
  have hS : va_S (MA ar s.heap.size) s.heap s.heap [] := va_S.rf
  have hG : MG [1, 2, 3, 4, 5, 6, 7, 8, 9, 10, 11, 12, 13, 14, 15, 16, 17, 19, 20, 21, 22, 23] st st := MG.rf hI
  have hl := lv_entry ([.ref (ar 0), .int va]) (n := 2) (Nat.le_of_ble_eq_true rfl)
  rw [lg_entry_eq]
  generalize (lg_sl ([.ref (ar 0), .int va]) ++ List.replicate (2 - (lg_sl ([.ref (ar 0), .int va])).length) Slot.unset).toArray = ls at hl ⊢
  have hl : lv_has ls 2 [(0, .ref (ar 0)), (1, .int va)] := hl
  clear hI
  refine lv_iload_n hx hb dX12_isPerson_0 rfl (lv_at hl 1 rfl) ?_
  refine lv_iconst (v := 0) hx hb dX12_isPerson_1 (by decide) ?_
  refine lv_aload_n hx hb dX12_isPerson_2 rfl (lv_at hl 0 rfl) ?_
  refine va_get (D := (dC, dI)) (ci := 11) (v := .ref (ar 2)) (C := RX12) (T := TX12) (N := 47) hx hb hts ii_X12_isPerson hown hK hP 0 rfl rfl 14 (by decide) (hts _ mm_X12_isPerson_1) (fun _ hh => hh) rfl dX12_isPerson_3 ?_
  refine lv_iconst (v := 1) hx hb dX12_isPerson_6 (by decide) ?_
  refine va_iald hx hb hK hP 2 1 rfl rfl (i := 1) (zz_in (by decide)) dX12_isPerson_7 ?_
  obtain ⟨n1, hn1, en1⟩ := hG.1.at (r := 2) (k := 1) (by decide : mr 2 1 = 9) (by decide)
  refine zz_top (v := nI n1) (by exact en1) ?_
  clear en1
  refine lv_iconst (v := 1) hx hb dX12_isPerson_8 (by decide) ?_
  refine lv_isub hx hb dX12_isPerson_9 ?_
  refine lv_topi (fun z2 ez2 => ?_)
  refine va_calli (va_runS (As := [.int va, .int 0, .int z2]) (rest := []) ⟨hx, hb, hml, hown, hts⟩ (m_isIn l dC dI ar cy _ hN st sl va 0 z2  hG.1) (va_cwS 3 hts gX12_isPerson_X12_isIn rfl rfl rfl (by decide +kernel) ⟨Nat.le_of_ble_eq_true rfl, Nat.le_of_ble_eq_true rfl⟩) ⟨fun a U g mk q => ⟨q.1, mPre.blind q.2⟩, fun U hU hW => ⟨rfl, mPre.of hP hK hU hW⟩⟩ rfl rfl hl.1 rfl (lv_room (Nat.le_of_ble_eq_true rfl)) dX12_isPerson_10 ⟨Nat.le_of_ble_eq_true rfl, Nat.le_of_ble_eq_true rfl⟩) hS (fun q _ h => MA.le hS.1 q h) (MA.le hS.1) (fun r3 x t H locs ht hvm hw hB _ _ hS => ?_)
  have hP := mB.at ht hB
  clear hB ht hvm
  obtain ⟨rfl, hw⟩ := hw
  have hP : va_P (dC, dI) vwCl (mw ar cy st sl) _ := hP
  rcases hw with ⟨rfl, hf4, hf5⟩ | rfl
  · obtain ⟨n6, hn6, rfl⟩ := zz_inidx (a := n1) (by omega) hf4 (by rw [← ez2]; exact hf5)
    exact W.zret (v := 1) hx hb hr rfl (fun t ht hW => ⟨⟨1, (st, sl), rfl, ⟨rfl, Or.inl ⟨_, rfl, by omega, rfl⟩⟩, mB.of ht hP⟩, hS.F ht⟩) hS.2.2 dX12_isPerson_13
  · exact W.zret (v := 0) hx hb hr rfl (fun t ht hW => ⟨⟨0, (st, sl), rfl, ⟨rfl, Or.inr (rfl)⟩, mB.of ht hP⟩, hS.F ht⟩) hS.2.2 dX12_isPerson_13
set_option maxHeartbeats 4000000 in
set_option maxRecDepth 100000 in
theorem m_isDog (l : Launch) (dC : Nat → ClassId) (dI : Nat → Nat → Nat) (ar : Nat → Nat) (cy : Nat → ClassId) (sz : Nat) (hN : MN ar) (st : Nat → Nat → Int32) (sl : Nat → Nat → Int64) (va : Int32) (hI : MI st) : Met l yX12_isDog wsX12_isDog ({ frames := 1, cells := 0, slots := 0, locals := 22 }) (va_Pc [.ref (ar 0), .int va] (mPre dC dI ar cy sz st sl)) (va_Qi (fun (r : Int32) (x : MT) => x = (st, sl) ∧ ((∃ n : Nat, r = 1 ∧ n < 6 ∧ va = nI n) ∨ (r = 0))) (mB dC dI ar cy) (MA ar sz)) 0 0 (MA ar sz) := by
  refine Met.ofW (cc := cX12_isDog) (maxL := 2) (ret := (some .boolean)) (by decide) rfl ?_
  intro p e s m args below meth c s₁ B hml hv
  obtain ⟨rfl, hsz, hP, hK⟩ := hv
  have hx := B.exec
  have hb := B.bytes
  have hr := B.returns
  have hts := atoms_spec (ws := wsX12_isDog) B.pre
  have hown : s.vm.findClass RX12 = some m.cls := findClass_of_methodNamed B.named
  subst hsz
  have hS : va_S (MA ar s.heap.size) s.heap s.heap [] := va_S.rf
  have hG : MG [1, 2, 3, 4, 5, 6, 7, 8, 9, 10, 11, 12, 13, 14, 15, 16, 17, 19, 20, 21, 22, 23] st st := MG.rf hI
  have hl := lv_entry ([.ref (ar 0), .int va]) (n := 2) (Nat.le_of_ble_eq_true rfl)
  rw [lg_entry_eq]
  generalize (lg_sl ([.ref (ar 0), .int va]) ++ List.replicate (2 - (lg_sl ([.ref (ar 0), .int va])).length) Slot.unset).toArray = ls at hl ⊢
  have hl : lv_has ls 2 [(0, .ref (ar 0)), (1, .int va)] := hl
  clear hI
  refine lv_iload_n hx hb dX12_isDog_0 rfl (lv_at hl 1 rfl) ?_
  refine lv_iconst (v := 0) hx hb dX12_isDog_1 (by decide) ?_
  refine lv_aload_n hx hb dX12_isDog_2 rfl (lv_at hl 0 rfl) ?_
  refine va_get (D := (dC, dI)) (ci := 11) (v := .ref (ar 2)) (C := RX12) (T := TX12) (N := 47) hx hb hts ii_X12_isDog hown hK hP 0 rfl rfl 14 (by decide) (hts _ mm_X12_isDog_1) (fun _ hh => hh) rfl dX12_isDog_3 ?_
  refine lv_iconst (v := 2) hx hb dX12_isDog_6 (by decide) ?_
  refine va_iald hx hb hK hP 2 1 rfl rfl (i := 2) (zz_in (by decide)) dX12_isDog_7 ?_
  obtain ⟨n1, hn1, en1⟩ := hG.1.at (r := 2) (k := 2) (by decide : mr 2 2 = 7) (by decide)
  refine zz_top (v := nI n1) (by exact en1) ?_
  clear en1
  refine lv_iconst (v := 1) hx hb dX12_isDog_8 (by decide) ?_
  refine lv_isub hx hb dX12_isDog_9 ?_
  refine lv_topi (fun z2 ez2 => ?_)
  refine va_calli (va_runS (As := [.int va, .int 0, .int z2]) (rest := []) ⟨hx, hb, hml, hown, hts⟩ (m_isIn l dC dI ar cy _ hN st sl va 0 z2  hG.1) (va_cwS 3 hts gX12_isDog_X12_isIn rfl rfl rfl (by decide +kernel) ⟨Nat.le_of_ble_eq_true rfl, Nat.le_of_ble_eq_true rfl⟩) ⟨fun a U g mk q => ⟨q.1, mPre.blind q.2⟩, fun U hU hW => ⟨rfl, mPre.of hP hK hU hW⟩⟩ rfl rfl hl.1 rfl (lv_room (Nat.le_of_ble_eq_true rfl)) dX12_isDog_10 ⟨Nat.le_of_ble_eq_true rfl, Nat.le_of_ble_eq_true rfl⟩) hS (fun q _ h => MA.le hS.1 q h) (MA.le hS.1) (fun r3 x t H locs ht hvm hw hB _ _ hS => ?_)
  have hP := mB.at ht hB
  clear hB ht hvm
  obtain ⟨rfl, hw⟩ := hw
  have hP : va_P (dC, dI) vwCl (mw ar cy st sl) _ := hP
  rcases hw with ⟨rfl, hf4, hf5⟩ | rfl
  · obtain ⟨n6, hn6, rfl⟩ := zz_inidx (a := n1) (by omega) hf4 (by rw [← ez2]; exact hf5)
    exact W.zret (v := 1) hx hb hr rfl (fun t ht hW => ⟨⟨1, (st, sl), rfl, ⟨rfl, Or.inl ⟨_, rfl, by omega, rfl⟩⟩, mB.of ht hP⟩, hS.F ht⟩) hS.2.2 dX12_isDog_13
  · exact W.zret (v := 0) hx hb hr rfl (fun t ht hW => ⟨⟨0, (st, sl), rfl, ⟨rfl, Or.inr (rfl)⟩, mB.of ht hP⟩, hS.F ht⟩) hS.2.2 dX12_isDog_13
set_option maxHeartbeats 4000000 in
set_option maxRecDepth 100000 in
theorem m_isAway (l : Launch) (dC : Nat → ClassId) (dI : Nat → Nat → Nat) (ar : Nat → Nat) (cy : Nat → ClassId) (sz : Nat) (hN : MN ar) (st : Nat → Nat → Int32) (sl : Nat → Nat → Int64) (vp : Nat) (hvp : vp < 8) (hI : MI st) : Met l yX12_isAway wsX12_isAway ({ frames := 0, cells := 0, slots := 0, locals := 0 }) (va_Pc [.ref (ar 0), .int (nI vp)] (mPre dC dI ar cy sz st sl)) (va_Qi (fun (r : Int32) (x : MT) => x = (st, sl) ∧ ((r = 1) ∨ (r = 0))) (mB dC dI ar cy) (MA ar sz)) 0 0 (MA ar sz) := by
  refine Met.ofW (cc := cX12_isAway) (maxL := 2) (ret := (some .boolean)) (by decide) rfl ?_
  intro p e s m args below meth c s₁ B hml hv
  obtain ⟨rfl, hsz, hP, hK⟩ := hv
  have hx := B.exec
  have hb := B.bytes
  have hr := B.returns
  have hts := atoms_spec (ws := wsX12_isAway) B.pre
  have hown : s.vm.findClass RX12 = some m.cls := findClass_of_methodNamed B.named
  subst hsz
  have hS : va_S (MA ar s.heap.size) s.heap s.heap [] := va_S.rf
  have hG : MG [1, 2, 3, 4, 5, 6, 7, 8, 9, 10, 11, 12, 13, 14, 15, 16, 17, 19, 20, 21, 22, 23] st st := MG.rf hI
  have hl := lv_entry ([.ref (ar 0), .int (nI vp)]) (n := 2) (Nat.le_of_ble_eq_true rfl)
  rw [lg_entry_eq]
  generalize (lg_sl ([.ref (ar 0), .int (nI vp)]) ++ List.replicate (2 - (lg_sl ([.ref (ar 0), .int (nI vp)])).length) Slot.unset).toArray = ls at hl ⊢
  have hl : lv_has ls 2 [(0, .ref (ar 0)), (1, .int (nI vp))] := hl
  clear hI
  refine lv_aload_n hx hb dX12_isAway_0 rfl (lv_at hl 0 rfl) ?_
  refine va_get (D := (dC, dI)) (ci := 11) (v := .ref (ar 2)) (C := RX12) (T := TX12) (N := 47) hx hb hts ii_X12_isAway hown hK hP 0 rfl rfl 14 (by decide) (hts _ mm_X12_isAway_1) (fun _ hh => hh) rfl dX12_isAway_1 ?_
  refine lv_bipush (v := 95) hx hb dX12_isAway_4 (by decide) ?_
  refine lv_iload_n hx hb dX12_isAway_6 rfl (lv_at hl 1 rfl) ?_
  refine lv_iadd hx hb dX12_isAway_7 ?_
  refine zz_top (v := nI (95 + vp)) (nI_add 95 vp) ?_
  refine va_iald hx hb hK hP 2 1 rfl rfl (i := (nI (95 + vp))) (vp_in_nI (by omega) (by decide)) dX12_isAway_8 ?_
  refine lv_topi (fun z1 ez1 => ?_)
  clear ez1
  refine lv_if_le (tgt := 16) hx hb dX12_isAway_9 (by decide) (fun c1 => ?_) (fun c1 => ?_)
  · refine lv_iconst (v := 0) hx hb dX12_isAway_16 (by decide) ?_
    exact W.zret (v := 0) hx hb hr rfl (fun t ht hW => ⟨⟨0, (st, sl), rfl, ⟨rfl, Or.inr (rfl)⟩, mB.of ht hP⟩, hS.F ht⟩) hS.2.2 dX12_isAway_17
  · refine lv_iconst (v := 1) hx hb dX12_isAway_12 (by decide) ?_
    refine lv_goto (tgt := 17) hx hb dX12_isAway_13 (by decide) ?_
    exact W.zret (v := 1) hx hb hr rfl (fun t ht hW => ⟨⟨1, (st, sl), rfl, ⟨rfl, Or.inl (rfl)⟩, mB.of ht hP⟩, hS.F ht⟩) hS.2.2 dX12_isAway_17
set_option maxHeartbeats 4000000 in
set_option maxRecDepth 100000 in
theorem m_isFenced (l : Launch) (dC : Nat → ClassId) (dI : Nat → Nat → Nat) (ar : Nat → Nat) (cy : Nat → ClassId) (sz : Nat) (hN : MN ar) (st : Nat → Nat → Int32) (sl : Nat → Nat → Int64) (va : Int32) (hI : MI st) : Met l yX12_isFenced wsX12_isFenced ({ frames := 1, cells := 0, slots := 0, locals := 21 }) (va_Pc [.ref (ar 0), .int va] (mPre dC dI ar cy sz st sl)) (va_Qi (fun (r : Int32) (x : MT) => x = (st, sl) ∧ ((r = 1) ∨ (r = 0))) (mB dC dI ar cy) (MA ar sz)) 0 0 (MA ar sz) := by
  refine Met.ofW (cc := cX12_isFenced) (maxL := 2) (ret := (some .boolean)) (by decide) rfl ?_
  intro p e s m args below meth c s₁ B hml hv
  obtain ⟨rfl, hsz, hP, hK⟩ := hv
  have hx := B.exec
  have hb := B.bytes
  have hr := B.returns
  have hts := atoms_spec (ws := wsX12_isFenced) B.pre
  have hown : s.vm.findClass RX12 = some m.cls := findClass_of_methodNamed B.named
  subst hsz
  have hS : va_S (MA ar s.heap.size) s.heap s.heap [] := va_S.rf
  have hG : MG [1, 2, 3, 4, 5, 6, 7, 8, 9, 10, 11, 12, 13, 14, 15, 16, 17, 19, 20, 21, 22, 23] st st := MG.rf hI
  have hl := lv_entry ([.ref (ar 0), .int va]) (n := 2) (Nat.le_of_ble_eq_true rfl)
  rw [lg_entry_eq]
  generalize (lg_sl ([.ref (ar 0), .int va]) ++ List.replicate (2 - (lg_sl ([.ref (ar 0), .int va])).length) Slot.unset).toArray = ls at hl ⊢
  have hl : lv_has ls 2 [(0, .ref (ar 0)), (1, .int va)] := hl
  clear hI
  refine lv_aload_n hx hb dX12_isFenced_0 rfl (lv_at hl 0 rfl) ?_
  refine va_get (D := (dC, dI)) (ci := 11) (v := .ref (ar 2)) (C := RX12) (T := TX12) (N := 47) hx hb hts ii_X12_isFenced hown hK hP 0 rfl rfl 14 (by decide) (hts _ mm_X12_isFenced_1) (fun _ hh => hh) rfl dX12_isFenced_1 ?_
  refine lv_bipush (v := 65) hx hb dX12_isFenced_4 (by decide) ?_
  refine va_iald hx hb hK hP 2 1 rfl rfl (i := 65) (zz_in (by decide)) dX12_isFenced_6 ?_
  refine lv_topi (fun z1 ez1 => ?_)
  clear ez1
  refine lv_iload_n hx hb dX12_isFenced_7 rfl (lv_at hl 1 rfl) ?_
  refine va_calli (va_runS (As := [.int z1, .int va]) (rest := []) ⟨hx, hb, hml, hown, hts⟩ (m_has l dC dI ar cy _ hN st sl z1 va  hG.1) (va_cwS 2 hts gX12_isFenced_X12_has rfl rfl rfl (by decide +kernel) ⟨Nat.le_of_ble_eq_true rfl, Nat.le_of_ble_eq_true rfl⟩) ⟨fun a U g mk q => ⟨q.1, mPre.blind q.2⟩, fun U hU hW => ⟨rfl, mPre.of hP hK hU hW⟩⟩ rfl rfl hl.1 rfl (lv_room (Nat.le_of_ble_eq_true rfl)) dX12_isFenced_8 ⟨Nat.le_of_ble_eq_true rfl, Nat.le_of_ble_eq_true rfl⟩) hS (fun q _ h => MA.le hS.1 q h) (MA.le hS.1) (fun r2 x t H locs ht hvm hw hB _ _ hS => ?_)
  have hP := mB.at ht hB
  clear hB ht hvm
  obtain ⟨rfl, hw⟩ := hw
  have hP : va_P (dC, dI) vwCl (mw ar cy st sl) _ := hP
  rcases hw with rfl | rfl
  · exact W.zret (v := 1) hx hb hr rfl (fun t ht hW => ⟨⟨1, (st, sl), rfl, ⟨rfl, Or.inl (rfl)⟩, mB.of ht hP⟩, hS.F ht⟩) hS.2.2 dX12_isFenced_11
  · exact W.zret (v := 0) hx hb hr rfl (fun t ht hW => ⟨⟨0, (st, sl), rfl, ⟨rfl, Or.inr (rfl)⟩, mB.of ht hP⟩, hS.F ht⟩) hS.2.2 dX12_isFenced_11
set_option maxHeartbeats 4000000 in
set_option maxRecDepth 100000 in
theorem m_hoursOf (l : Launch) (dC : Nat → ClassId) (dI : Nat → Nat → Nat) (ar : Nat → Nat) (cy : Nat → ClassId) (sz : Nat) (hN : MN ar) (st : Nat → Nat → Int32) (sl : Nat → Nat → Int64) (vp : Nat) (hvp : vp < 8) (hI : MI st) : Met l yX12_hoursOf wsX12_hoursOf ({ frames := 1, cells := 0, slots := 0, locals := 21 }) (va_Pc [.ref (ar 0), .int (nI vp)] (mPre dC dI ar cy sz st sl)) (va_Qi (fun (r : Int32) (x : MT) => x = (st, sl) ∧ (True)) (mB dC dI ar cy) (MA ar sz)) 0 0 (MA ar sz) := by
  refine Met.ofW (cc := cX12_hoursOf) (maxL := 2) (ret := (some .int)) (by decide) rfl ?_
  intro p e s m args below meth c s₁ B hml hv
  obtain ⟨rfl, hsz, hP, hK⟩ := hv
  have hx := B.exec
  have hb := B.bytes
  have hr := B.returns
  have hts := atoms_spec (ws := wsX12_hoursOf) B.pre
  have hown : s.vm.findClass RX12 = some m.cls := findClass_of_methodNamed B.named
  subst hsz
  have hS : va_S (MA ar s.heap.size) s.heap s.heap [] := va_S.rf
  have hG : MG [1, 2, 3, 4, 5, 6, 7, 8, 9, 10, 11, 12, 13, 14, 15, 16, 17, 19, 20, 21, 22, 23] st st := MG.rf hI
  have hl := lv_entry ([.ref (ar 0), .int (nI vp)]) (n := 2) (Nat.le_of_ble_eq_true rfl)
  rw [lg_entry_eq]
  generalize (lg_sl ([.ref (ar 0), .int (nI vp)]) ++ List.replicate (2 - (lg_sl ([.ref (ar 0), .int (nI vp)])).length) Slot.unset).toArray = ls at hl ⊢
  have hl : lv_has ls 2 [(0, .ref (ar 0)), (1, .int (nI vp))] := hl
  clear hI
  refine lv_aload_n hx hb dX12_hoursOf_0 rfl (lv_at hl 0 rfl) ?_
  refine va_get (D := (dC, dI)) (ci := 11) (v := .ref (ar 2)) (C := RX12) (T := TX12) (N := 47) hx hb hts ii_X12_hoursOf hown hK hP 0 rfl rfl 14 (by decide) (hts _ mm_X12_hoursOf_1) (fun _ hh => hh) rfl dX12_hoursOf_1 ?_
  refine lv_bipush (v := 79) hx hb dX12_hoursOf_4 (by decide) ?_
  refine lv_iload_n hx hb dX12_hoursOf_6 rfl (lv_at hl 1 rfl) ?_
  refine lv_iadd hx hb dX12_hoursOf_7 ?_
  refine zz_top (v := nI (79 + vp)) (nI_add 79 vp) ?_
  refine va_iald hx hb hK hP 2 1 rfl rfl (i := (nI (79 + vp))) (vp_in_nI (by omega) (by decide)) dX12_hoursOf_8 ?_
  refine lv_topi (fun z1 ez1 => ?_)
  clear ez1
  refine lv_aload_n hx hb dX12_hoursOf_9 rfl (lv_at hl 0 rfl) ?_
  refine va_get (D := (dC, dI)) (ci := 11) (v := .ref (ar 2)) (C := RX12) (T := TX12) (N := 47) hx hb hts ii_X12_hoursOf hown hK hP 0 rfl rfl 14 (by decide) (hts _ mm_X12_hoursOf_1) (fun _ hh => hh) rfl dX12_hoursOf_10 ?_
  refine lv_bipush (v := 87) hx hb dX12_hoursOf_13 (by decide) ?_
  refine lv_iload_n hx hb dX12_hoursOf_15 rfl (lv_at hl 1 rfl) ?_
  refine lv_iadd hx hb dX12_hoursOf_16 ?_
  refine zz_top (v := nI (87 + vp)) (nI_add 87 vp) ?_
  refine va_iald hx hb hK hP 2 1 rfl rfl (i := (nI (87 + vp))) (vp_in_nI (by omega) (by decide)) dX12_hoursOf_17 ?_
  refine lv_topi (fun z2 ez2 => ?_)
  clear ez2
  refine va_calli (va_runS (As := [.int z1, .int z2]) (rest := []) ⟨hx, hb, hml, hown, hts⟩ (m_hoursIn l dC dI ar cy _ hN st sl z1 z2  hG.1) (va_cwS 2 hts gX12_hoursOf_X12_hoursIn rfl rfl rfl (by decide +kernel) ⟨Nat.le_of_ble_eq_true rfl, Nat.le_of_ble_eq_true rfl⟩) ⟨fun a U g mk q => ⟨q.1, mPre.blind q.2⟩, fun U hU hW => ⟨rfl, mPre.of hP hK hU hW⟩⟩ rfl rfl hl.1 rfl (lv_room (Nat.le_of_ble_eq_true rfl)) dX12_hoursOf_18 ⟨Nat.le_of_ble_eq_true rfl, Nat.le_of_ble_eq_true rfl⟩) hS (fun q _ h => MA.le hS.1 q h) (MA.le hS.1) (fun r3 x t H locs ht hvm hw hB _ _ hS => ?_)
  have hP := mB.at ht hB
  clear hB ht hvm
  obtain ⟨rfl, hw⟩ := hw
  have hP : va_P (dC, dI) vwCl (mw ar cy st sl) _ := hP
  clear hw
  exact W.iret (v := r3) hx hb hr (fun t ht hW => ⟨⟨r3, (st, sl), rfl, ⟨rfl, trivial⟩, mB.of ht hP⟩, hS.F ht⟩) hS.2.2 dX12_hoursOf_21
set_option maxHeartbeats 4000000 in
set_option maxRecDepth 100000 in
theorem m_comesIn (l : Launch) (dC : Nat → ClassId) (dI : Nat → Nat → Nat) (ar : Nat → Nat) (cy : Nat → ClassId) (sz : Nat) (hN : MN ar) (st : Nat → Nat → Int32) (sl : Nat → Nat → Int64) (vp : Nat) (va : Int32) (vb : Int32) (hvp : vp < 8) (hI : MI st) : Met l yX12_comesIn wsX12_comesIn ({ frames := 2, cells := 0, slots := 0, locals := 42 }) (va_Pc [.ref (ar 0), .int (nI vp), .int va, .int vb] (mPre dC dI ar cy sz st sl)) (va_Qi (fun (r : Int32) (x : MT) => x = (st, sl) ∧ ((r = 1) ∨ (r = 0))) (mB dC dI ar cy) (MA ar sz)) 0 0 (MA ar sz) := by
  refine Met.ofW (cc := cX12_comesIn) (maxL := 4) (ret := (some .boolean)) (by decide) rfl ?_
  intro p e s m args below meth c s₁ B hml hv
  obtain ⟨rfl, hsz, hP, hK⟩ := hv
  have hx := B.exec
  have hb := B.bytes
  have hr := B.returns
  have hts := atoms_spec (ws := wsX12_comesIn) B.pre
  have hown : s.vm.findClass RX12 = some m.cls := findClass_of_methodNamed B.named
  subst hsz
  have hS : va_S (MA ar s.heap.size) s.heap s.heap [] := va_S.rf
  have hG : MG [1, 2, 3, 4, 5, 6, 7, 8, 9, 10, 11, 12, 13, 14, 15, 16, 17, 19, 20, 21, 22, 23] st st := MG.rf hI
  have hl := lv_entry ([.ref (ar 0), .int (nI vp), .int va, .int vb]) (n := 4) (Nat.le_of_ble_eq_true rfl)
  rw [lg_entry_eq]
  generalize (lg_sl ([.ref (ar 0), .int (nI vp), .int va, .int vb]) ++ List.replicate (4 - (lg_sl ([.ref (ar 0), .int (nI vp), .int va, .int vb])).length) Slot.unset).toArray = ls at hl ⊢
  have hl : lv_has ls 4 [(0, .ref (ar 0)), (1, .int (nI vp)), (2, .int va), (3, .int vb)] := hl
  clear hI
  refine lv_aload_n hx hb dX12_comesIn_0 rfl (lv_at hl 0 rfl) ?_
  refine va_get (D := (dC, dI)) (ci := 11) (v := .ref (ar 2)) (C := RX12) (T := TX12) (N := 47) hx hb hts ii_X12_comesIn hown hK hP 0 rfl rfl 14 (by decide) (hts _ mm_X12_comesIn_1) (fun _ hh => hh) rfl dX12_comesIn_1 ?_
  refine lv_bipush (v := 71) hx hb dX12_comesIn_4 (by decide) ?_
  refine lv_iload_n hx hb dX12_comesIn_6 rfl (lv_at hl 1 rfl) ?_
  refine lv_iadd hx hb dX12_comesIn_7 ?_
  refine zz_top (v := nI (71 + vp)) (nI_add 71 vp) ?_
  refine va_iald hx hb hK hP 2 1 rfl rfl (i := (nI (71 + vp))) (vp_in_nI (by omega) (by decide)) dX12_comesIn_8 ?_
  obtain ⟨n1, hn1, en1⟩ := hG.1.at (r := 2) (k := (71 + vp)) (mr_2_71_79 (71 + vp) (by omega) (by omega)) (by decide)
  refine zz_top (v := nI n1) (by rw [nI_clamp (by omega)]; exact en1) ?_
  clear en1
  refine lv_iload_n hx hb dX12_comesIn_9 rfl (lv_at hl 2 rfl) ?_
  refine lv_icmp_ne (tgt := 29) hx hb dX12_comesIn_10 (by decide) (fun c1 => ?_) (fun c1 => ?_)
  · refine lv_iconst (v := 0) hx hb dX12_comesIn_29 (by decide) ?_
    exact W.zret (v := 0) hx hb hr rfl (fun t ht hW => ⟨⟨0, (st, sl), rfl, ⟨rfl, Or.inr (rfl)⟩, mB.of ht hP⟩, hS.F ht⟩) hS.2.2 dX12_comesIn_30
  · refine lv_aload_n hx hb dX12_comesIn_13 rfl (lv_at hl 0 rfl) ?_
    refine lv_iload_n hx hb dX12_comesIn_14 rfl (lv_at hl 1 rfl) ?_
    refine va_calli (va_runV (As := [.int (nI vp)]) (rest := []) ⟨hx, hb, hml, hown, hts⟩ (m_hoursOf l dC dI ar cy _ hN st sl vp (by omega) hG.1) (cwV 1 hts gX12_comesIn_X12_hoursOf rfl rfl rfl (by decide +kernel) ⟨Nat.le_of_ble_eq_true rfl, Nat.le_of_ble_eq_true rfl⟩) ⟨fun a U g mk q => ⟨q.1, mPre.blind q.2⟩, va_recv hK hP (ci := 11) (q0 := 0) rfl rfl, fun U hU hW => ⟨rfl, mPre.of hP hK hU hW⟩⟩ rfl rfl hl.1 rfl (lv_room (Nat.le_of_ble_eq_true rfl)) dX12_comesIn_15 ⟨Nat.le_of_ble_eq_true rfl, Nat.le_of_ble_eq_true rfl⟩) hS (fun q _ h => MA.le hS.1 q h) (MA.le hS.1) (fun r2 x t H locs ht hvm hw hB _ _ hS => ?_)
    have hP := mB.at ht hB
    clear hB ht hvm
    obtain ⟨rfl, hw⟩ := hw
    have hP : va_P (dC, dI) vwCl (mw ar cy st sl) _ := hP
    clear hw
    refine lv_iload_n hx hb dX12_comesIn_18 rfl (lv_at hl 3 rfl) ?_
    refine va_calli (va_runS (As := [.int r2, .int vb]) (rest := []) ⟨hx, hb, hml, hown, hts⟩ (m_has l dC dI ar cy _ hN st sl r2 vb  hG.1) (va_cwS 2 hts gX12_comesIn_X12_has rfl rfl rfl (by decide +kernel) ⟨Nat.le_of_ble_eq_true rfl, Nat.le_of_ble_eq_true rfl⟩) ⟨fun a U g mk q => ⟨q.1, mPre.blind q.2⟩, fun U hU hW => ⟨rfl, mPre.of hP hK hU hW⟩⟩ rfl rfl hl.1 rfl (lv_room (Nat.le_of_ble_eq_true rfl)) dX12_comesIn_19 ⟨Nat.le_of_ble_eq_true rfl, Nat.le_of_ble_eq_true rfl⟩) hS (fun q _ h => MA.le hS.1 q h) (MA.le hS.1) (fun r3 x t H locs ht hvm hw hB _ _ hS => ?_)
    have hP := mB.at ht hB
    clear hB ht hvm
    obtain ⟨rfl, hw⟩ := hw
    have hP : va_P (dC, dI) vwCl (mw ar cy st sl) _ := hP
    rcases hw with rfl | rfl
    · refine lv_if_eq (tgt := 29) hx hb dX12_comesIn_22 (by decide) (fun cc => absurd cc (by decide)) (fun _ => ?_)
      refine lv_iconst (v := 1) hx hb dX12_comesIn_25 (by decide) ?_
      refine lv_goto (tgt := 30) hx hb dX12_comesIn_26 (by decide) ?_
      exact W.zret (v := 1) hx hb hr rfl (fun t ht hW => ⟨⟨1, (st, sl), rfl, ⟨rfl, Or.inl (rfl)⟩, mB.of ht hP⟩, hS.F ht⟩) hS.2.2 dX12_comesIn_30
    · refine lv_if_eq (tgt := 29) hx hb dX12_comesIn_22 (by decide) (fun _ => ?_) (fun cc => absurd (by decide) cc)
      refine lv_iconst (v := 0) hx hb dX12_comesIn_29 (by decide) ?_
      exact W.zret (v := 0) hx hb hr rfl (fun t ht hW => ⟨⟨0, (st, sl), rfl, ⟨rfl, Or.inr (rfl)⟩, mB.of ht hP⟩, hS.F ht⟩) hS.2.2 dX12_comesIn_30
set_option maxHeartbeats 4000000 in
set_option maxRecDepth 100000 in
theorem m_dogsOf (l : Launch) (dC : Nat → ClassId) (dI : Nat → Nat → Nat) (ar : Nat → Nat) (cy : Nat → ClassId) (sz : Nat) (hN : MN ar) (st : Nat → Nat → Int32) (sl : Nat → Nat → Int64) (va : Int32) (hI : MI st) : Met l yX12_dogsOf wsX12_dogsOf ({ frames := 0, cells := 0, slots := 0, locals := 0 }) (va_Pc [.ref (ar 0), .int va] (mPre dC dI ar cy sz st sl)) (va_Qi (fun (r : Int32) (x : MT) => x = (st, sl) ∧ (True)) (mB dC dI ar cy) (MA ar sz)) 0 0 (MA ar sz) := by
  refine Met.ofW (cc := cX12_dogsOf) (maxL := 4) (ret := (some .int)) (by decide) rfl ?_
  intro p e s m args below meth c s₁ B hml hv
  obtain ⟨rfl, hsz, hP, hK⟩ := hv
  have hx := B.exec
  have hb := B.bytes
  have hr := B.returns
  have hts := atoms_spec (ws := wsX12_dogsOf) B.pre
  have hown : s.vm.findClass RX12 = some m.cls := findClass_of_methodNamed B.named
  subst hsz
  have hS : va_S (MA ar s.heap.size) s.heap s.heap [] := va_S.rf
  have hG : MG [1, 2, 3, 4, 5, 6, 7, 8, 9, 10, 11, 12, 13, 14, 15, 16, 17, 19, 20, 21, 22, 23] st st := MG.rf hI
  have hl := lv_entry ([.ref (ar 0), .int va]) (n := 4) (Nat.le_of_ble_eq_true rfl)
  rw [lg_entry_eq]
  generalize (lg_sl ([.ref (ar 0), .int va]) ++ List.replicate (4 - (lg_sl ([.ref (ar 0), .int va])).length) Slot.unset).toArray = ls at hl ⊢
  have hl : lv_has ls 4 [(0, .ref (ar 0)), (1, .int va)] := hl
  clear hI
  refine lv_iconst (v := 0) hx hb dX12_dogsOf_0 (by decide) ?_
  refine lv_istore_n (lv' := [(2, .int 0), (0, .ref (ar 0)), (1, .int va)]) hx hb dX12_dogsOf_1 rfl hl (by decide) rfl (fun ls hl => ?_)
  refine lv_iconst (v := 0) hx hb dX12_dogsOf_2 (by decide) ?_
  refine lv_istore_n (lv' := [(3, .int 0), (2, .int 0), (0, .ref (ar 0)), (1, .int va)]) hx hb dX12_dogsOf_3 rfl hl (by decide) rfl (fun ls hl => ?_)
  refine zz_wf (fun n stk H locs ls => ∃ k1 : Nat, ∃ z2 : Int32, n = 7 - k1 ∧ 0 ≤ k1 ∧ k1 < 7 ∧ va_P (dC, dI) vwCl (mw ar cy st sl) H ∧ va_S (MA ar s.heap.size) s.heap H locs ∧ lv_has ls 4 [(3, .int (nI k1)), (2, .int z2), (0, .ref (ar 0)), (1, .int va)] ∧ stk = []) ?_ (7 - 0) _ _ _ _ ⟨0, 0, rfl, by omega, by omega, hP, hS, lv_sub hl [0, 1, 2, 3] rfl, rfl⟩
  rintro nn stk H locs ls ⟨k1, z2, hm4, hv3_0, hv4_1, hP, hS, hl, rfl⟩ ih5
  refine lv_iload_n hx hb dX12_dogsOf_4 rfl (lv_at hl 0 rfl) ?_
  refine lv_aload_n hx hb dX12_dogsOf_5 rfl (lv_at hl 2 rfl) ?_
  refine va_get (D := (dC, dI)) (ci := 11) (v := .ref (ar 2)) (C := RX12) (T := TX12) (N := 47) hx hb hts ii_X12_dogsOf hown hK hP 0 rfl rfl 14 (by decide) (hts _ mm_X12_dogsOf_1) (fun _ hh => hh) rfl dX12_dogsOf_6 ?_
  refine lv_iconst (v := 2) hx hb dX12_dogsOf_9 (by decide) ?_
  refine va_iald hx hb hK hP 2 1 rfl rfl (i := 2) (zz_in (by decide)) dX12_dogsOf_10 ?_
  obtain ⟨n6, hn6, en6⟩ := hG.1.at (r := 2) (k := 2) (by decide : mr 2 2 = 7) (by decide)
  refine zz_top (v := nI n6) (by exact en6) ?_
  clear en6
  refine lv_icmp_ge (tgt := 39) hx hb dX12_dogsOf_11 (by decide) (fun c1 => ?_) (fun c1 => ?_)
  · have c1 : n6 ≤ k1 := (nI_leI (a := n6) (b := k1) (by omega) (by omega)).mp c1
    refine lv_iload_n hx hb dX12_dogsOf_39 rfl (lv_at hl 1 rfl) ?_
    exact W.iret (v := z2) hx hb hr (fun t ht hW => ⟨⟨z2, (st, sl), rfl, ⟨rfl, trivial⟩, mB.of ht hP⟩, hS.F ht⟩) hS.2.2 dX12_dogsOf_40
  · have c1 : ¬ n6 ≤ k1 := fun hh => c1 ((nI_leI (a := n6) (b := k1) (by omega) (by omega)).mpr hh)
    refine lv_aload_n hx hb dX12_dogsOf_14 rfl (lv_at hl 2 rfl) ?_
    refine va_get (D := (dC, dI)) (ci := 11) (v := .ref (ar 2)) (C := RX12) (T := TX12) (N := 47) hx hb hts ii_X12_dogsOf hown hK hP 0 rfl rfl 14 (by decide) (hts _ mm_X12_dogsOf_1) (fun _ hh => hh) rfl dX12_dogsOf_15 ?_
    refine lv_bipush (v := 42) hx hb dX12_dogsOf_18 (by decide) ?_
    refine lv_iload_n hx hb dX12_dogsOf_20 rfl (lv_at hl 0 rfl) ?_
    refine lv_iadd hx hb dX12_dogsOf_21 ?_
    refine zz_top (v := nI (42 + k1)) (nI_add 42 k1) ?_
    refine va_iald hx hb hK hP 2 1 rfl rfl (i := (nI (42 + k1))) (vp_in_nI (by omega) (by decide)) dX12_dogsOf_22 ?_
    obtain ⟨n7, hn7, en7⟩ := hG.1.at (r := 2) (k := (42 + k1)) (mr_2_42_48 (42 + k1) (by omega) (by omega)) (by decide)
    refine zz_top (v := nI n7) (by rw [nI_clamp (by omega)]; exact en7) ?_
    clear en7
    refine lv_iload_n hx hb dX12_dogsOf_23 rfl (lv_at hl 3 rfl) ?_
    refine lv_icmp_ne (tgt := 33) hx hb dX12_dogsOf_24 (by decide) (fun c2 => ?_) (fun c2 => ?_)
    · refine lv_iinc (v := (nI (k1 + 1))) (lv' := [(3, .int (nI (k1 + 1))), (2, .int z2), (0, .ref (ar 0)), (1, .int va)]) hx hb dX12_dogsOf_33 hl (k := 0) rfl (nI_add k1 1) (by decide) rfl (fun ls hl => ?_)
      refine lv_goto (tgt := 4) hx hb dX12_dogsOf_36 (by decide) ?_
      exact ih5 (7 - (k1 + 1)) _ _ _ _ (by omega) ⟨(k1 + 1), z2, rfl, by omega, by omega, hP, hS, lv_sub hl [0, 1, 2, 3] rfl, rfl⟩
    · refine lv_iload_n hx hb dX12_dogsOf_27 rfl (lv_at hl 1 rfl) ?_
      refine lv_iconst (v := 1) hx hb dX12_dogsOf_28 (by decide) ?_
      refine lv_iload_n hx hb dX12_dogsOf_29 rfl (lv_at hl 0 rfl) ?_
      refine lv_ishl hx hb dX12_dogsOf_30 ?_
      refine lv_topi (fun z8 ez8 => ?_)
      clear ez8
      refine lv_ior hx hb dX12_dogsOf_31 ?_
      refine lv_topi (fun z9 ez9 => ?_)
      clear ez9
      refine lv_istore_n (lv' := [(2, .int z9), (3, .int (nI k1)), (0, .ref (ar 0)), (1, .int va)]) hx hb dX12_dogsOf_32 rfl hl (by decide) rfl (fun ls hl => ?_)
      refine lv_iinc (v := (nI (k1 + 1))) (lv' := [(3, .int (nI (k1 + 1))), (2, .int z9), (0, .ref (ar 0)), (1, .int va)]) hx hb dX12_dogsOf_33 hl (k := 1) rfl (nI_add k1 1) (by decide) rfl (fun ls hl => ?_)
      refine lv_goto (tgt := 4) hx hb dX12_dogsOf_36 (by decide) ?_
      exact ih5 (7 - (k1 + 1)) _ _ _ _ (by omega) ⟨(k1 + 1), z9, rfl, by omega, by omega, hP, hS, lv_sub hl [0, 1, 2, 3] rfl, rfl⟩
