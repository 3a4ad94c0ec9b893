set_option maxHeartbeats 4000000 in
set_option maxRecDepth 100000 in
theorem m_wordOf (l : Launch) (dC : Nat → ClassId) (dI : Nat → Nat → Nat) (ar : Nat → Nat) (cy : Nat → ClassId) (sz : Nat) (hN : MN ar) (st : Nat → Nat → Int32) (sl : Nat → Nat → Int64) (va : Int32) (hI : MI st) : Met l yX12_wordOf wsX12_wordOf ({ frames := 1, cells := 0, slots := 0, locals := 28 }) (va_Pc [.int va] (mPre dC dI ar cy sz st sl)) (va_Ql (fun (r : Int64) (x : MT) => x = (st, sl) ∧ (True)) (mB dC dI ar cy) (MA ar sz)) 0 0 (MA ar sz) := by
  refine Met.ofW (cc := cX12_wordOf) (maxL := 1) (ret := (some .long)) (by decide) rfl ?_
  intro p e s m args below meth c s₁ B hml hv
  obtain ⟨rfl, hsz, hP, hK⟩ := hv
  have hx := B.exec
  have hb := B.bytes
  have hr := B.returns
  have hts := atoms_spec (ws := wsX12_wordOf) B.pre
  have hown : s.vm.findClass RX12 = some m.cls := findClass_of_methodNamed B.named
  subst hsz
  have hS : va_S (MA ar s.heap.size) s.heap s.heap [] := va_S.rf
  have hG : MG [1, 2, 3, 4, 5, 6, 7, 8, 9, 10, 11, 12, 13, 14, 15, 16, 17, 19, 20, 21, 22, 23] st st := MG.rf hI
  have hl := lv_entry ([.int va]) (n := 1) (Nat.le_of_ble_eq_true rfl)
  rw [lg_entry_eq]
  generalize (lg_sl ([.int va]) ++ List.replicate (1 - (lg_sl ([.int va])).length) Slot.unset).toArray = ls at hl ⊢
  have hl : lv_has ls 1 [(0, .int va)] := hl
  clear hI
  refine lv_iload_n hx hb dX12_wordOf_0 rfl (lv_at hl 0 rfl) ?_
  by_cases cw1 : va = 0
  · subst cw1
    refine lv_tableIn (tgt := 108) hx hb dX12_wordOf_1 (by decide) (by decide) rfl (by decide) ?_
    refine lv_bipush (v := 112) hx hb dX12_wordOf_108 (by decide) ?_
    refine lv_bipush (v := 108) hx hb dX12_wordOf_110 (by decide) ?_
    refine lv_bipush (v := 97) hx hb dX12_wordOf_112 (by decide) ?_
    refine lv_bipush (v := 99) hx hb dX12_wordOf_114 (by decide) ?_
    refine lv_bipush (v := 101) hx hb dX12_wordOf_116 (by decide) ?_
    refine lv_iconst (v := 0) hx hb dX12_wordOf_118 (by decide) ?_
    refine lv_iconst (v := 0) hx hb dX12_wordOf_119 (by decide) ?_
    refine va_calll (va_runS (As := [.int 112, .int 108, .int 97, .int 99, .int 101, .int 0, .int 0]) (rest := []) ⟨hx, hb, hml, hown, hts⟩ (m_spelt l dC dI ar cy _ hN st sl 112 108 97 99 101 0 0  hG.1) (va_cwS 7 hts gX12_wordOf_X12_spelt rfl rfl rfl (by decide +kernel) ⟨Nat.le_of_ble_eq_true rfl, Nat.le_of_ble_eq_true rfl⟩) ⟨fun a U g mk q => ⟨q.1, mPre.blind q.2⟩, fun U hU hW => ⟨rfl, mPre.of hP hK hU hW⟩⟩ rfl rfl hl.1 rfl (lv_room (Nat.le_of_ble_eq_true rfl)) dX12_wordOf_120 ⟨Nat.le_of_ble_eq_true rfl, Nat.le_of_ble_eq_true rfl⟩) hS (fun q _ h => MA.le hS.1 q h) (MA.le hS.1) (fun r2 x t H locs ht hvm hw hB _ _ hS => ?_)
    have hP := mB.at ht hB
    clear hB ht hvm
    obtain ⟨rfl, hw⟩ := hw
    have hP : va_P (dC, dI) vwCl (mw ar cy st sl) _ := hP
    clear hw
    exact W.lret (v := r2) hx hb hr (fun t ht hW => ⟨⟨r2, (st, sl), rfl, ⟨rfl, trivial⟩, mB.of ht hP⟩, hS.F ht⟩) hS.2.2 dX12_wordOf_123
  by_cases cw3 : va = 1
  · subst cw3
    refine lv_tableIn (tgt := 124) hx hb dX12_wordOf_1 (by decide) (by decide) rfl (by decide) ?_
    refine lv_bipush (v := 102) hx hb dX12_wordOf_124 (by decide) ?_
    refine lv_bipush (v := 101) hx hb dX12_wordOf_126 (by decide) ?_
    refine lv_bipush (v := 110) hx hb dX12_wordOf_128 (by decide) ?_
    refine lv_bipush (v := 99) hx hb dX12_wordOf_130 (by decide) ?_
    refine lv_bipush (v := 101) hx hb dX12_wordOf_132 (by decide) ?_
    refine lv_bipush (v := 100) hx hb dX12_wordOf_134 (by decide) ?_
    refine lv_iconst (v := 0) hx hb dX12_wordOf_136 (by decide) ?_
    refine va_calll (va_runS (As := [.int 102, .int 101, .int 110, .int 99, .int 101, .int 100, .int 0]) (rest := []) ⟨hx, hb, hml, hown, hts⟩ (m_spelt l dC dI ar cy _ hN st sl 102 101 110 99 101 100 0  hG.1) (va_cwS 7 hts gX12_wordOf_X12_spelt rfl rfl rfl (by decide +kernel) ⟨Nat.le_of_ble_eq_true rfl, Nat.le_of_ble_eq_true rfl⟩) ⟨fun a U g mk q => ⟨q.1, mPre.blind q.2⟩, fun U hU hW => ⟨rfl, mPre.of hP hK hU hW⟩⟩ rfl rfl hl.1 rfl (lv_room (Nat.le_of_ble_eq_true rfl)) dX12_wordOf_137 ⟨Nat.le_of_ble_eq_true rfl, Nat.le_of_ble_eq_true rfl⟩) hS (fun q _ h => MA.le hS.1 q h) (MA.le hS.1) (fun r4 x t H locs ht hvm hw hB _ _ hS => ?_)
    have hP := mB.at ht hB
    clear hB ht hvm
    obtain ⟨rfl, hw⟩ := hw
    have hP : va_P (dC, dI) vwCl (mw ar cy st sl) _ := hP
    clear hw
    exact W.lret (v := r4) hx hb hr (fun t ht hW => ⟨⟨r4, (st, sl), rfl, ⟨rfl, trivial⟩, mB.of ht hP⟩, hS.F ht⟩) hS.2.2 dX12_wordOf_140
  by_cases cw5 : va = 2
  · subst cw5
    refine lv_tableIn (tgt := 141) hx hb dX12_wordOf_1 (by decide) (by decide) rfl (by decide) ?_
    refine lv_bipush (v := 112) hx hb dX12_wordOf_141 (by decide) ?_
    refine lv_bipush (v := 101) hx hb dX12_wordOf_143 (by decide) ?_
    refine lv_bipush (v := 114) hx hb dX12_wordOf_145 (by decide) ?_
    refine lv_bipush (v := 115) hx hb dX12_wordOf_147 (by decide) ?_
    refine lv_bipush (v := 111) hx hb dX12_wordOf_149 (by decide) ?_
    refine lv_bipush (v := 110) hx hb dX12_wordOf_151 (by decide) ?_
    refine lv_iconst (v := 0) hx hb dX12_wordOf_153 (by decide) ?_
    refine va_calll (va_runS (As := [.int 112, .int 101, .int 114, .int 115, .int 111, .int 110, .int 0]) (rest := []) ⟨hx, hb, hml, hown, hts⟩ (m_spelt l dC dI ar cy _ hN st sl 112 101 114 115 111 110 0  hG.1) (va_cwS 7 hts gX12_wordOf_X12_spelt rfl rfl rfl (by decide +kernel) ⟨Nat.le_of_ble_eq_true rfl, Nat.le_of_ble_eq_true rfl⟩) ⟨fun a U g mk q => ⟨q.1, mPre.blind q.2⟩, fun U hU hW => ⟨rfl, mPre.of hP hK hU hW⟩⟩ rfl rfl hl.1 rfl (lv_room (Nat.le_of_ble_eq_true rfl)) dX12_wordOf_154 ⟨Nat.le_of_ble_eq_true rfl, Nat.le_of_ble_eq_true rfl⟩) hS (fun q _ h => MA.le hS.1 q h) (MA.le hS.1) (fun r6 x t H locs ht hvm hw hB _ _ hS => ?_)
    have hP := mB.at ht hB
    clear hB ht hvm
    obtain ⟨rfl, hw⟩ := hw
    have hP : va_P (dC, dI) vwCl (mw ar cy st sl) _ := hP
    clear hw
    exact W.lret (v := r6) hx hb hr (fun t ht hW => ⟨⟨r6, (st, sl), rfl, ⟨rfl, trivial⟩, mB.of ht hP⟩, hS.F ht⟩) hS.2.2 dX12_wordOf_157
  by_cases cw7 : va = 3
  · subst cw7
    refine lv_tableIn (tgt := 158) hx hb dX12_wordOf_1 (by decide) (by decide) rfl (by decide) ?_
    refine lv_bipush (v := 100) hx hb dX12_wordOf_158 (by decide) ?_
    refine lv_bipush (v := 111) hx hb dX12_wordOf_160 (by decide) ?_
    refine lv_bipush (v := 103) hx hb dX12_wordOf_162 (by decide) ?_
    refine lv_iconst (v := 0) hx hb dX12_wordOf_164 (by decide) ?_
    refine lv_iconst (v := 0) hx hb dX12_wordOf_165 (by decide) ?_
    refine lv_iconst (v := 0) hx hb dX12_wordOf_166 (by decide) ?_
    refine lv_iconst (v := 0) hx hb dX12_wordOf_167 (by decide) ?_
    refine va_calll (va_runS (As := [.int 100, .int 111, .int 103, .int 0, .int 0, .int 0, .int 0]) (rest := []) ⟨hx, hb, hml, hown, hts⟩ (m_spelt l dC dI ar cy _ hN st sl 100 111 103 0 0 0 0  hG.1) (va_cwS 7 hts gX12_wordOf_X12_spelt rfl rfl rfl (by decide +kernel) ⟨Nat.le_of_ble_eq_true rfl, Nat.le_of_ble_eq_true rfl⟩) ⟨fun a U g mk q => ⟨q.1, mPre.blind q.2⟩, fun U hU hW => ⟨rfl, mPre.of hP hK hU hW⟩⟩ rfl rfl hl.1 rfl (lv_room (Nat.le_of_ble_eq_true rfl)) dX12_wordOf_168 ⟨Nat.le_of_ble_eq_true rfl, Nat.le_of_ble_eq_true rfl⟩) hS (fun q _ h => MA.le hS.1 q h) (MA.le hS.1) (fun r8 x t H locs ht hvm hw hB _ _ hS => ?_)
    have hP := mB.at ht hB
    clear hB ht hvm
    obtain ⟨rfl, hw⟩ := hw
    have hP : va_P (dC, dI) vwCl (mw ar cy st sl) _ := hP
    clear hw
    exact W.lret (v := r8) hx hb hr (fun t ht hW => ⟨⟨r8, (st, sl), rfl, ⟨rfl, trivial⟩, mB.of ht hP⟩, hS.F ht⟩) hS.2.2 dX12_wordOf_171
  by_cases cw9 : va = 4
  · subst cw9
    refine lv_tableIn (tgt := 172) hx hb dX12_wordOf_1 (by decide) (by decide) rfl (by decide) ?_
    refine lv_bipush (v := 102) hx hb dX12_wordOf_172 (by decide) ?_
    refine lv_bipush (v := 114) hx hb dX12_wordOf_174 (by decide) ?_
    refine lv_bipush (v := 101) hx hb dX12_wordOf_176 (by decide) ?_
    refine lv_bipush (v := 101) hx hb dX12_wordOf_178 (by decide) ?_
    refine lv_iconst (v := 0) hx hb dX12_wordOf_180 (by decide) ?_
    refine lv_iconst (v := 0) hx hb dX12_wordOf_181 (by decide) ?_
    refine lv_iconst (v := 0) hx hb dX12_wordOf_182 (by decide) ?_
    refine va_calll (va_runS (As := [.int 102, .int 114, .int 101, .int 101, .int 0, .int 0, .int 0]) (rest := []) ⟨hx, hb, hml, hown, hts⟩ (m_spelt l dC dI ar cy _ hN st sl 102 114 101 101 0 0 0  hG.1) (va_cwS 7 hts gX12_wordOf_X12_spelt rfl rfl rfl (by decide +kernel) ⟨Nat.le_of_ble_eq_true rfl, Nat.le_of_ble_eq_true rfl⟩) ⟨fun a U g mk q => ⟨q.1, mPre.blind q.2⟩, fun U hU hW => ⟨rfl, mPre.of hP hK hU hW⟩⟩ rfl rfl hl.1 rfl (lv_room (Nat.le_of_ble_eq_true rfl)) dX12_wordOf_183 ⟨Nat.le_of_ble_eq_true rfl, Nat.le_of_ble_eq_true rfl⟩) hS (fun q _ h => MA.le hS.1 q h) (MA.le hS.1) (fun r10 x t H locs ht hvm hw hB _ _ hS => ?_)
    have hP := mB.at ht hB
    clear hB ht hvm
    obtain ⟨rfl, hw⟩ := hw
    have hP : va_P (dC, dI) vwCl (mw ar cy st sl) _ := hP
    clear hw
    exact W.lret (v := r10) hx hb hr (fun t ht hW => ⟨⟨r10, (st, sl), rfl, ⟨rfl, trivial⟩, mB.of ht hP⟩, hS.F ht⟩) hS.2.2 dX12_wordOf_186
  by_cases cw11 : va = 5
  · subst cw11
    refine lv_tableIn (tgt := 187) hx hb dX12_wordOf_1 (by decide) (by decide) rfl (by decide) ?_
    refine lv_bipush (v := 115) hx hb dX12_wordOf_187 (by decide) ?_
    refine lv_bipush (v := 105) hx hb dX12_wordOf_189 (by decide) ?_
    refine lv_bipush (v := 103) hx hb dX12_wordOf_191 (by decide) ?_
    refine lv_bipush (v := 110) hx hb dX12_wordOf_193 (by decide) ?_
    refine lv_iconst (v := 0) hx hb dX12_wordOf_195 (by decide) ?_
    refine lv_iconst (v := 0) hx hb dX12_wordOf_196 (by decide) ?_
    refine lv_iconst (v := 0) hx hb dX12_wordOf_197 (by decide) ?_
    refine va_calll (va_runS (As := [.int 115, .int 105, .int 103, .int 110, .int 0, .int 0, .int 0]) (rest := []) ⟨hx, hb, hml, hown, hts⟩ (m_spelt l dC dI ar cy _ hN st sl 115 105 103 110 0 0 0  hG.1) (va_cwS 7 hts gX12_wordOf_X12_spelt rfl rfl rfl (by decide +kernel) ⟨Nat.le_of_ble_eq_true rfl, Nat.le_of_ble_eq_true rfl⟩) ⟨fun a U g mk q => ⟨q.1, mPre.blind q.2⟩, fun U hU hW => ⟨rfl, mPre.of hP hK hU hW⟩⟩ rfl rfl hl.1 rfl (lv_room (Nat.le_of_ble_eq_true rfl)) dX12_wordOf_198 ⟨Nat.le_of_ble_eq_true rfl, Nat.le_of_ble_eq_true rfl⟩) hS (fun q _ h => MA.le hS.1 q h) (MA.le hS.1) (fun r12 x t H locs ht hvm hw hB _ _ hS => ?_)
    have hP := mB.at ht hB
    clear hB ht hvm
    obtain ⟨rfl, hw⟩ := hw
    have hP : va_P (dC, dI) vwCl (mw ar cy st sl) _ := hP
    clear hw
    exact W.lret (v := r12) hx hb hr (fun t ht hW => ⟨⟨r12, (st, sl), rfl, ⟨rfl, trivial⟩, mB.of ht hP⟩, hS.F ht⟩) hS.2.2 dX12_wordOf_201
  by_cases cw13 : va = 6
  · subst cw13
    refine lv_tableIn (tgt := 202) hx hb dX12_wordOf_1 (by decide) (by decide) rfl (by decide) ?_
    refine lv_bipush (v := 97) hx hb dX12_wordOf_202 (by decide) ?_
    refine lv_bipush (v := 108) hx hb dX12_wordOf_204 (by decide) ?_
    refine lv_bipush (v := 108) hx hb dX12_wordOf_206 (by decide) ?_
    refine lv_bipush (v := 111) hx hb dX12_wordOf_208 (by decide) ?_
    refine lv_bipush (v := 119) hx hb dX12_wordOf_210 (by decide) ?_
    refine lv_iconst (v := 0) hx hb dX12_wordOf_212 (by decide) ?_
    refine lv_iconst (v := 0) hx hb dX12_wordOf_213 (by decide) ?_
    refine va_calll (va_runS (As := [.int 97, .int 108, .int 108, .int 111, .int 119, .int 0, .int 0]) (rest := []) ⟨hx, hb, hml, hown, hts⟩ (m_spelt l dC dI ar cy _ hN st sl 97 108 108 111 119 0 0  hG.1) (va_cwS 7 hts gX12_wordOf_X12_spelt rfl rfl rfl (by decide +kernel) ⟨Nat.le_of_ble_eq_true rfl, Nat.le_of_ble_eq_true rfl⟩) ⟨fun a U g mk q => ⟨q.1, mPre.blind q.2⟩, fun U hU hW => ⟨rfl, mPre.of hP hK hU hW⟩⟩ rfl rfl hl.1 rfl (lv_room (Nat.le_of_ble_eq_true rfl)) dX12_wordOf_214 ⟨Nat.le_of_ble_eq_true rfl, Nat.le_of_ble_eq_true rfl⟩) hS (fun q _ h => MA.le hS.1 q h) (MA.le hS.1) (fun r14 x t H locs ht hvm hw hB _ _ hS => ?_)
    have hP := mB.at ht hB
    clear hB ht hvm
    obtain ⟨rfl, hw⟩ := hw
    have hP : va_P (dC, dI) vwCl (mw ar cy st sl) _ := hP
    clear hw
    exact W.lret (v := r14) hx hb hr (fun t ht hW => ⟨⟨r14, (st, sl), rfl, ⟨rfl, trivial⟩, mB.of ht hP⟩, hS.F ht⟩) hS.2.2 dX12_wordOf_217
  by_cases cw15 : va = 7
  · subst cw15
    refine lv_tableIn (tgt := 218) hx hb dX12_wordOf_1 (by decide) (by decide) rfl (by decide) ?_
    refine lv_bipush (v := 102) hx hb dX12_wordOf_218 (by decide) ?_
    refine lv_bipush (v := 111) hx hb dX12_wordOf_220 (by decide) ?_
    refine lv_bipush (v := 114) hx hb dX12_wordOf_222 (by decide) ?_
    refine lv_bipush (v := 98) hx hb dX12_wordOf_224 (by decide) ?_
    refine lv_bipush (v := 105) hx hb dX12_wordOf_226 (by decide) ?_
    refine lv_bipush (v := 100) hx hb dX12_wordOf_228 (by decide) ?_
    refine lv_iconst (v := 0) hx hb dX12_wordOf_230 (by decide) ?_
    refine va_calll (va_runS (As := [.int 102, .int 111, .int 114, .int 98, .int 105, .int 100, .int 0]) (rest := []) ⟨hx, hb, hml, hown, hts⟩ (m_spelt l dC dI ar cy _ hN st sl 102 111 114 98 105 100 0  hG.1) (va_cwS 7 hts gX12_wordOf_X12_spelt rfl rfl rfl (by decide +kernel) ⟨Nat.le_of_ble_eq_true rfl, Nat.le_of_ble_eq_true rfl⟩) ⟨fun a U g mk q => ⟨q.1, mPre.blind q.2⟩, fun U hU hW => ⟨rfl, mPre.of hP hK hU hW⟩⟩ rfl rfl hl.1 rfl (lv_room (Nat.le_of_ble_eq_true rfl)) dX12_wordOf_231 ⟨Nat.le_of_ble_eq_true rfl, Nat.le_of_ble_eq_true rfl⟩) hS (fun q _ h => MA.le hS.1 q h) (MA.le hS.1) (fun r16 x t H locs ht hvm hw hB _ _ hS => ?_)
    have hP := mB.at ht hB
    clear hB ht hvm
    obtain ⟨rfl, hw⟩ := hw
    have hP : va_P (dC, dI) vwCl (mw ar cy st sl) _ := hP
    clear hw
    exact W.lret (v := r16) hx hb hr (fun t ht hW => ⟨⟨r16, (st, sl), rfl, ⟨rfl, trivial⟩, mB.of ht hP⟩, hS.F ht⟩) hS.2.2 dX12_wordOf_234
  by_cases cw17 : va = 8
  · subst cw17
    refine lv_tableIn (tgt := 235) hx hb dX12_wordOf_1 (by decide) (by decide) rfl (by decide) ?_
    refine lv_bipush (v := 102) hx hb dX12_wordOf_235 (by decide) ?_
    refine lv_bipush (v := 101) hx hb dX12_wordOf_237 (by decide) ?_
    refine lv_bipush (v := 110) hx hb dX12_wordOf_239 (by decide) ?_
    refine lv_bipush (v := 99) hx hb dX12_wordOf_241 (by decide) ?_
    refine lv_bipush (v := 101) hx hb dX12_wordOf_243 (by decide) ?_
    refine lv_iconst (v := 0) hx hb dX12_wordOf_245 (by decide) ?_
    refine lv_iconst (v := 0) hx hb dX12_wordOf_246 (by decide) ?_
    refine va_calll (va_runS (As := [.int 102, .int 101, .int 110, .int 99, .int 101, .int 0, .int 0]) (rest := []) ⟨hx, hb, hml, hown, hts⟩ (m_spelt l dC dI ar cy _ hN st sl 102 101 110 99 101 0 0  hG.1) (va_cwS 7 hts gX12_wordOf_X12_spelt rfl rfl rfl (by decide +kernel) ⟨Nat.le_of_ble_eq_true rfl, Nat.le_of_ble_eq_true rfl⟩) ⟨fun a U g mk q => ⟨q.1, mPre.blind q.2⟩, fun U hU hW => ⟨rfl, mPre.of hP hK hU hW⟩⟩ rfl rfl hl.1 rfl (lv_room (Nat.le_of_ble_eq_true rfl)) dX12_wordOf_247 ⟨Nat.le_of_ble_eq_true rfl, Nat.le_of_ble_eq_true rfl⟩) hS (fun q _ h => MA.le hS.1 q h) (MA.le hS.1) (fun r18 x t H locs ht hvm hw hB _ _ hS => ?_)
    have hP := mB.at ht hB
    clear hB ht hvm
    obtain ⟨rfl, hw⟩ := hw
    have hP : va_P (dC, dI) vwCl (mw ar cy st sl) _ := hP
    clear hw
    exact W.lret (v := r18) hx hb hr (fun t ht hW => ⟨⟨r18, (st, sl), rfl, ⟨rfl, trivial⟩, mB.of ht hP⟩, hS.F ht⟩) hS.2.2 dX12_wordOf_250
  by_cases cw19 : va = 9
  · subst cw19
    refine lv_tableIn (tgt := 251) hx hb dX12_wordOf_1 (by decide) (by decide) rfl (by decide) ?_
    refine lv_bipush (v := 104) hx hb dX12_wordOf_251 (by decide) ?_
    refine lv_bipush (v := 101) hx hb dX12_wordOf_253 (by decide) ?_
    refine lv_bipush (v := 108) hx hb dX12_wordOf_255 (by decide) ?_
    refine lv_bipush (v := 100) hx hb dX12_wordOf_257 (by decide) ?_
    refine lv_iconst (v := 0) hx hb dX12_wordOf_259 (by decide) ?_
    refine lv_iconst (v := 0) hx hb dX12_wordOf_260 (by decide) ?_
    refine lv_iconst (v := 0) hx hb dX12_wordOf_261 (by decide) ?_
    refine va_calll (va_runS (As := [.int 104, .int 101, .int 108, .int 100, .int 0, .int 0, .int 0]) (rest := []) ⟨hx, hb, hml, hown, hts⟩ (m_spelt l dC dI ar cy _ hN st sl 104 101 108 100 0 0 0  hG.1) (va_cwS 7 hts gX12_wordOf_X12_spelt rfl rfl rfl (by decide +kernel) ⟨Nat.le_of_ble_eq_true rfl, Nat.le_of_ble_eq_true rfl⟩) ⟨fun a U g mk q => ⟨q.1, mPre.blind q.2⟩, fun U hU hW => ⟨rfl, mPre.of hP hK hU hW⟩⟩ rfl rfl hl.1 rfl (lv_room (Nat.le_of_ble_eq_true rfl)) dX12_wordOf_262 ⟨Nat.le_of_ble_eq_true rfl, Nat.le_of_ble_eq_true rfl⟩) hS (fun q _ h => MA.le hS.1 q h) (MA.le hS.1) (fun r20 x t H locs ht hvm hw hB _ _ hS => ?_)
    have hP := mB.at ht hB
    clear hB ht hvm
    obtain ⟨rfl, hw⟩ := hw
    have hP : va_P (dC, dI) vwCl (mw ar cy st sl) _ := hP
    clear hw
    exact W.lret (v := r20) hx hb hr (fun t ht hW => ⟨⟨r20, (st, sl), rfl, ⟨rfl, trivial⟩, mB.of ht hP⟩, hS.F ht⟩) hS.2.2 dX12_wordOf_265
  by_cases cw21 : va = 10
  · subst cw21
    refine lv_tableIn (tgt := 266) hx hb dX12_wordOf_1 (by decide) (by decide) rfl (by decide) ?_
    refine lv_bipush (v := 108) hx hb dX12_wordOf_266 (by decide) ?_
    refine lv_bipush (v := 111) hx hb dX12_wordOf_268 (by decide) ?_
    refine lv_bipush (v := 111) hx hb dX12_wordOf_270 (by decide) ?_
    refine lv_bipush (v := 115) hx hb dX12_wordOf_272 (by decide) ?_
    refine lv_bipush (v := 101) hx hb dX12_wordOf_274 (by decide) ?_
    refine lv_iconst (v := 0) hx hb dX12_wordOf_276 (by decide) ?_
    refine lv_iconst (v := 0) hx hb dX12_wordOf_277 (by decide) ?_
    refine va_calll (va_runS (As := [.int 108, .int 111, .int 111, .int 115, .int 101, .int 0, .int 0]) (rest := []) ⟨hx, hb, hml, hown, hts⟩ (m_spelt l dC dI ar cy _ hN st sl 108 111 111 115 101 0 0  hG.1) (va_cwS 7 hts gX12_wordOf_X12_spelt rfl rfl rfl (by decide +kernel) ⟨Nat.le_of_ble_eq_true rfl, Nat.le_of_ble_eq_true rfl⟩) ⟨fun a U g mk q => ⟨q.1, mPre.blind q.2⟩, fun U hU hW => ⟨rfl, mPre.of hP hK hU hW⟩⟩ rfl rfl hl.1 rfl (lv_room (Nat.le_of_ble_eq_true rfl)) dX12_wordOf_278 ⟨Nat.le_of_ble_eq_true rfl, Nat.le_of_ble_eq_true rfl⟩) hS (fun q _ h => MA.le hS.1 q h) (MA.le hS.1) (fun r22 x t H locs ht hvm hw hB _ _ hS => ?_)
    have hP := mB.at ht hB
    clear hB ht hvm
    obtain ⟨rfl, hw⟩ := hw
    have hP : va_P (dC, dI) vwCl (mw ar cy st sl) _ := hP
    clear hw
    exact W.lret (v := r22) hx hb hr (fun t ht hW => ⟨⟨r22, (st, sl), rfl, ⟨rfl, trivial⟩, mB.of ht hP⟩, hS.F ht⟩) hS.2.2 dX12_wordOf_281
  by_cases cw23 : va = 11
  · subst cw23
    refine lv_tableIn (tgt := 282) hx hb dX12_wordOf_1 (by decide) (by decide) rfl (by decide) ?_
    refine lv_bipush (v := 99) hx hb dX12_wordOf_282 (by decide) ?_
    refine lv_bipush (v := 111) hx hb dX12_wordOf_284 (by decide) ?_
    refine lv_bipush (v := 109) hx hb dX12_wordOf_286 (by decide) ?_
    refine lv_bipush (v := 101) hx hb dX12_wordOf_288 (by decide) ?_
    refine lv_bipush (v := 115) hx hb dX12_wordOf_290 (by decide) ?_
    refine lv_iconst (v := 0) hx hb dX12_wordOf_292 (by decide) ?_
    refine lv_iconst (v := 0) hx hb dX12_wordOf_293 (by decide) ?_
    refine va_calll (va_runS (As := [.int 99, .int 111, .int 109, .int 101, .int 115, .int 0, .int 0]) (rest := []) ⟨hx, hb, hml, hown, hts⟩ (m_spelt l dC dI ar cy _ hN st sl 99 111 109 101 115 0 0  hG.1) (va_cwS 7 hts gX12_wordOf_X12_spelt rfl rfl rfl (by decide +kernel) ⟨Nat.le_of_ble_eq_true rfl, Nat.le_of_ble_eq_true rfl⟩) ⟨fun a U g mk q => ⟨q.1, mPre.blind q.2⟩, fun U hU hW => ⟨rfl, mPre.of hP hK hU hW⟩⟩ rfl rfl hl.1 rfl (lv_room (Nat.le_of_ble_eq_true rfl)) dX12_wordOf_294 ⟨Nat.le_of_ble_eq_true rfl, Nat.le_of_ble_eq_true rfl⟩) hS (fun q _ h => MA.le hS.1 q h) (MA.le hS.1) (fun r24 x t H locs ht hvm hw hB _ _ hS => ?_)
    have hP := mB.at ht hB
    clear hB ht hvm
    obtain ⟨rfl, hw⟩ := hw
    have hP : va_P (dC, dI) vwCl (mw ar cy st sl) _ := hP
    clear hw
    exact W.lret (v := r24) hx hb hr (fun t ht hW => ⟨⟨r24, (st, sl), rfl, ⟨rfl, trivial⟩, mB.of ht hP⟩, hS.F ht⟩) hS.2.2 dX12_wordOf_297
  by_cases cw25 : va = 12
  · subst cw25
    refine lv_tableIn (tgt := 298) hx hb dX12_wordOf_1 (by decide) (by decide) rfl (by decide) ?_
    refine lv_bipush (v := 100) hx hb dX12_wordOf_298 (by decide) ?_
    refine lv_bipush (v := 97) hx hb dX12_wordOf_300 (by decide) ?_
    refine lv_bipush (v := 121) hx hb dX12_wordOf_302 (by decide) ?_
    refine lv_iconst (v := 0) hx hb dX12_wordOf_304 (by decide) ?_
    refine lv_iconst (v := 0) hx hb dX12_wordOf_305 (by decide) ?_
    refine lv_iconst (v := 0) hx hb dX12_wordOf_306 (by decide) ?_
    refine lv_iconst (v := 0) hx hb dX12_wordOf_307 (by decide) ?_
    refine va_calll (va_runS (As := [.int 100, .int 97, .int 121, .int 0, .int 0, .int 0, .int 0]) (rest := []) ⟨hx, hb, hml, hown, hts⟩ (m_spelt l dC dI ar cy _ hN st sl 100 97 121 0 0 0 0  hG.1) (va_cwS 7 hts gX12_wordOf_X12_spelt rfl rfl rfl (by decide +kernel) ⟨Nat.le_of_ble_eq_true rfl, Nat.le_of_ble_eq_true rfl⟩) ⟨fun a U g mk q => ⟨q.1, mPre.blind q.2⟩, fun U hU hW => ⟨rfl, mPre.of hP hK hU hW⟩⟩ rfl rfl hl.1 rfl (lv_room (Nat.le_of_ble_eq_true rfl)) dX12_wordOf_308 ⟨Nat.le_of_ble_eq_true rfl, Nat.le_of_ble_eq_true rfl⟩) hS (fun q _ h => MA.le hS.1 q h) (MA.le hS.1) (fun r26 x t H locs ht hvm hw hB _ _ hS => ?_)
    have hP := mB.at ht hB
    clear hB ht hvm
    obtain ⟨rfl, hw⟩ := hw
    have hP : va_P (dC, dI) vwCl (mw ar cy st sl) _ := hP
    clear hw
    exact W.lret (v := r26) hx hb hr (fun t ht hW => ⟨⟨r26, (st, sl), rfl, ⟨rfl, trivial⟩, mB.of ht hP⟩, hS.F ht⟩) hS.2.2 dX12_wordOf_311
  by_cases cw27 : va = 13
  · subst cw27
    refine lv_tableIn (tgt := 312) hx hb dX12_wordOf_1 (by decide) (by decide) rfl (by decide) ?_
    refine lv_bipush (v := 111) hx hb dX12_wordOf_312 (by decide) ?_
    refine lv_bipush (v := 114) hx hb dX12_wordOf_314 (by decide) ?_
    refine lv_iconst (v := 0) hx hb dX12_wordOf_316 (by decide) ?_
    refine lv_iconst (v := 0) hx hb dX12_wordOf_317 (by decide) ?_
    refine lv_iconst (v := 0) hx hb dX12_wordOf_318 (by decide) ?_
    refine lv_iconst (v := 0) hx hb dX12_wordOf_319 (by decide) ?_
    refine lv_iconst (v := 0) hx hb dX12_wordOf_320 (by decide) ?_
    refine va_calll (va_runS (As := [.int 111, .int 114, .int 0, .int 0, .int 0, .int 0, .int 0]) (rest := []) ⟨hx, hb, hml, hown, hts⟩ (m_spelt l dC dI ar cy _ hN st sl 111 114 0 0 0 0 0  hG.1) (va_cwS 7 hts gX12_wordOf_X12_spelt rfl rfl rfl (by decide +kernel) ⟨Nat.le_of_ble_eq_true rfl, Nat.le_of_ble_eq_true rfl⟩) ⟨fun a U g mk q => ⟨q.1, mPre.blind q.2⟩, fun U hU hW => ⟨rfl, mPre.of hP hK hU hW⟩⟩ rfl rfl hl.1 rfl (lv_room (Nat.le_of_ble_eq_true rfl)) dX12_wordOf_321 ⟨Nat.le_of_ble_eq_true rfl, Nat.le_of_ble_eq_true rfl⟩) hS (fun q _ h => MA.le hS.1 q h) (MA.le hS.1) (fun r28 x t H locs ht hvm hw hB _ _ hS => ?_)
    have hP := mB.at ht hB
    clear hB ht hvm
    obtain ⟨rfl, hw⟩ := hw
    have hP : va_P (dC, dI) vwCl (mw ar cy st sl) _ := hP
    clear hw
    exact W.lret (v := r28) hx hb hr (fun t ht hW => ⟨⟨r28, (st, sl), rfl, ⟨rfl, trivial⟩, mB.of ht hP⟩, hS.F ht⟩) hS.2.2 dX12_wordOf_324
  by_cases cw29 : va = 14
  · subst cw29
    refine lv_tableIn (tgt := 325) hx hb dX12_wordOf_1 (by decide) (by decide) rfl (by decide) ?_
    refine lv_bipush (v := 97) hx hb dX12_wordOf_325 (by decide) ?_
    refine lv_bipush (v := 110) hx hb dX12_wordOf_327 (by decide) ?_
    refine lv_bipush (v := 100) hx hb dX12_wordOf_329 (by decide) ?_
    refine lv_iconst (v := 0) hx hb dX12_wordOf_331 (by decide) ?_
    refine lv_iconst (v := 0) hx hb dX12_wordOf_332 (by decide) ?_
    refine lv_iconst (v := 0) hx hb dX12_wordOf_333 (by decide) ?_
    refine lv_iconst (v := 0) hx hb dX12_wordOf_334 (by decide) ?_
    refine va_calll (va_runS (As := [.int 97, .int 110, .int 100, .int 0, .int 0, .int 0, .int 0]) (rest := []) ⟨hx, hb, hml, hown, hts⟩ (m_spelt l dC dI ar cy _ hN st sl 97 110 100 0 0 0 0  hG.1) (va_cwS 7 hts gX12_wordOf_X12_spelt rfl rfl rfl (by decide +kernel) ⟨Nat.le_of_ble_eq_true rfl, Nat.le_of_ble_eq_true rfl⟩) ⟨fun a U g mk q => ⟨q.1, mPre.blind q.2⟩, fun U hU hW => ⟨rfl, mPre.of hP hK hU hW⟩⟩ rfl rfl hl.1 rfl (lv_room (Nat.le_of_ble_eq_true rfl)) dX12_wordOf_335 ⟨Nat.le_of_ble_eq_true rfl, Nat.le_of_ble_eq_true rfl⟩) hS (fun q _ h => MA.le hS.1 q h) (MA.le hS.1) (fun r30 x t H locs ht hvm hw hB _ _ hS => ?_)
    have hP := mB.at ht hB
    clear hB ht hvm
    obtain ⟨rfl, hw⟩ := hw
    have hP : va_P (dC, dI) vwCl (mw ar cy st sl) _ := hP
    clear hw
    exact W.lret (v := r30) hx hb hr (fun t ht hW => ⟨⟨r30, (st, sl), rfl, ⟨rfl, trivial⟩, mB.of ht hP⟩, hS.F ht⟩) hS.2.2 dX12_wordOf_338
  by_cases cw31 : va = 15
  · subst cw31
    refine lv_tableIn (tgt := 339) hx hb dX12_wordOf_1 (by decide) (by decide) rfl (by decide) ?_
    refine lv_bipush (v := 110) hx hb dX12_wordOf_339 (by decide) ?_
    refine lv_bipush (v := 111) hx hb dX12_wordOf_341 (by decide) ?_
    refine lv_bipush (v := 116) hx hb dX12_wordOf_343 (by decide) ?_
    refine lv_iconst (v := 0) hx hb dX12_wordOf_345 (by decide) ?_
    refine lv_iconst (v := 0) hx hb dX12_wordOf_346 (by decide) ?_
    refine lv_iconst (v := 0) hx hb dX12_wordOf_347 (by decide) ?_
    refine lv_iconst (v := 0) hx hb dX12_wordOf_348 (by decide) ?_
    refine va_calll (va_runS (As := [.int 110, .int 111, .int 116, .int 0, .int 0, .int 0, .int 0]) (rest := []) ⟨hx, hb, hml, hown, hts⟩ (m_spelt l dC dI ar cy _ hN st sl 110 111 116 0 0 0 0  hG.1) (va_cwS 7 hts gX12_wordOf_X12_spelt rfl rfl rfl (by decide +kernel) ⟨Nat.le_of_ble_eq_true rfl, Nat.le_of_ble_eq_true rfl⟩) ⟨fun a U g mk q => ⟨q.1, mPre.blind q.2⟩, fun U hU hW => ⟨rfl, mPre.of hP hK hU hW⟩⟩ rfl rfl hl.1 rfl (lv_room (Nat.le_of_ble_eq_true rfl)) dX12_wordOf_349 ⟨Nat.le_of_ble_eq_true rfl, Nat.le_of_ble_eq_true rfl⟩) hS (fun q _ h => MA.le hS.1 q h) (MA.le hS.1) (fun r32 x t H locs ht hvm hw hB _ _ hS => ?_)
    have hP := mB.at ht hB
    clear hB ht hvm
    obtain ⟨rfl, hw⟩ := hw
    have hP : va_P (dC, dI) vwCl (mw ar cy st sl) _ := hP
    clear hw
    exact W.lret (v := r32) hx hb hr (fun t ht hW => ⟨⟨r32, (st, sl), rfl, ⟨rfl, trivial⟩, mB.of ht hP⟩, hS.F ht⟩) hS.2.2 dX12_wordOf_352
  by_cases cw33 : va = 16
  · subst cw33
    refine lv_tableIn (tgt := 353) hx hb dX12_wordOf_1 (by decide) (by decide) rfl (by decide) ?_
    refine lv_bipush (v := 97) hx hb dX12_wordOf_353 (by decide) ?_
    refine lv_bipush (v := 119) hx hb dX12_wordOf_355 (by decide) ?_
    refine lv_bipush (v := 97) hx hb dX12_wordOf_357 (by decide) ?_
    refine lv_bipush (v := 121) hx hb dX12_wordOf_359 (by decide) ?_
    refine lv_iconst (v := 0) hx hb dX12_wordOf_361 (by decide) ?_
    refine lv_iconst (v := 0) hx hb dX12_wordOf_362 (by decide) ?_
    refine lv_iconst (v := 0) hx hb dX12_wordOf_363 (by decide) ?_
    refine va_calll (va_runS (As := [.int 97, .int 119, .int 97, .int 121, .int 0, .int 0, .int 0]) (rest := []) ⟨hx, hb, hml, hown, hts⟩ (m_spelt l dC dI ar cy _ hN st sl 97 119 97 121 0 0 0  hG.1) (va_cwS 7 hts gX12_wordOf_X12_spelt rfl rfl rfl (by decide +kernel) ⟨Nat.le_of_ble_eq_true rfl, Nat.le_of_ble_eq_true rfl⟩) ⟨fun a U g mk q => ⟨q.1, mPre.blind q.2⟩, fun U hU hW => ⟨rfl, mPre.of hP hK hU hW⟩⟩ rfl rfl hl.1 rfl (lv_room (Nat.le_of_ble_eq_true rfl)) dX12_wordOf_364 ⟨Nat.le_of_ble_eq_true rfl, Nat.le_of_ble_eq_true rfl⟩) hS (fun q _ h => MA.le hS.1 q h) (MA.le hS.1) (fun r34 x t H locs ht hvm hw hB _ _ hS => ?_)
    have hP := mB.at ht hB
    clear hB ht hvm
    obtain ⟨rfl, hw⟩ := hw
    have hP : va_P (dC, dI) vwCl (mw ar cy st sl) _ := hP
    clear hw
    exact W.lret (v := r34) hx hb hr (fun t ht hW => ⟨⟨r34, (st, sl), rfl, ⟨rfl, trivial⟩, mB.of ht hP⟩, hS.F ht⟩) hS.2.2 dX12_wordOf_367
  by_cases cw35 : va = 17
  · subst cw35
    refine lv_tableIn (tgt := 368) hx hb dX12_wordOf_1 (by decide) (by decide) rfl (by decide) ?_
    refine lv_bipush (v := 111) hx hb dX12_wordOf_368 (by decide) ?_
    refine lv_bipush (v := 119) hx hb dX12_wordOf_370 (by decide) ?_
    refine lv_bipush (v := 110) hx hb dX12_wordOf_372 (by decide) ?_
    refine lv_bipush (v := 101) hx hb dX12_wordOf_374 (by decide) ?_
    refine lv_bipush (v := 114) hx hb dX12_wordOf_376 (by decide) ?_
    refine lv_iconst (v := 0) hx hb dX12_wordOf_378 (by decide) ?_
    refine lv_iconst (v := 0) hx hb dX12_wordOf_379 (by decide) ?_
    refine va_calll (va_runS (As := [.int 111, .int 119, .int 110, .int 101, .int 114, .int 0, .int 0]) (rest := []) ⟨hx, hb, hml, hown, hts⟩ (m_spelt l dC dI ar cy _ hN st sl 111 119 110 101 114 0 0  hG.1) (va_cwS 7 hts gX12_wordOf_X12_spelt rfl rfl rfl (by decide +kernel) ⟨Nat.le_of_ble_eq_true rfl, Nat.le_of_ble_eq_true rfl⟩) ⟨fun a U g mk q => ⟨q.1, mPre.blind q.2⟩, fun U hU hW => ⟨rfl, mPre.of hP hK hU hW⟩⟩ rfl rfl hl.1 rfl (lv_room (Nat.le_of_ble_eq_true rfl)) dX12_wordOf_380 ⟨Nat.le_of_ble_eq_true rfl, Nat.le_of_ble_eq_true rfl⟩) hS (fun q _ h => MA.le hS.1 q h) (MA.le hS.1) (fun r36 x t H locs ht hvm hw hB _ _ hS => ?_)
    have hP := mB.at ht hB
    clear hB ht hvm
    obtain ⟨rfl, hw⟩ := hw
    have hP : va_P (dC, dI) vwCl (mw ar cy st sl) _ := hP
    clear hw
    exact W.lret (v := r36) hx hb hr (fun t ht hW => ⟨⟨r36, (st, sl), rfl, ⟨rfl, trivial⟩, mB.of ht hP⟩, hS.F ht⟩) hS.2.2 dX12_wordOf_383
  by_cases cw37 : va = 18
  · subst cw37
    refine lv_tableIn (tgt := 384) hx hb dX12_wordOf_1 (by decide) (by decide) rfl (by decide) ?_
    refine lv_bipush (v := 109) hx hb dX12_wordOf_384 (by decide) ?_
    refine lv_bipush (v := 101) hx hb dX12_wordOf_386 (by decide) ?_
    refine lv_bipush (v := 101) hx hb dX12_wordOf_388 (by decide) ?_
    refine lv_bipush (v := 116) hx hb dX12_wordOf_390 (by decide) ?_
    refine lv_bipush (v := 115) hx hb dX12_wordOf_392 (by decide) ?_
    refine lv_iconst (v := 0) hx hb dX12_wordOf_394 (by decide) ?_
    refine lv_iconst (v := 0) hx hb dX12_wordOf_395 (by decide) ?_
    refine va_calll (va_runS (As := [.int 109, .int 101, .int 101, .int 116, .int 115, .int 0, .int 0]) (rest := []) ⟨hx, hb, hml, hown, hts⟩ (m_spelt l dC dI ar cy _ hN st sl 109 101 101 116 115 0 0  hG.1) (va_cwS 7 hts gX12_wordOf_X12_spelt rfl rfl rfl (by decide +kernel) ⟨Nat.le_of_ble_eq_true rfl, Nat.le_of_ble_eq_true rfl⟩) ⟨fun a U g mk q => ⟨q.1, mPre.blind q.2⟩, fun U hU hW => ⟨rfl, mPre.of hP hK hU hW⟩⟩ rfl rfl hl.1 rfl (lv_room (Nat.le_of_ble_eq_true rfl)) dX12_wordOf_396 ⟨Nat.le_of_ble_eq_true rfl, Nat.le_of_ble_eq_true rfl⟩) hS (fun q _ h => MA.le hS.1 q h) (MA.le hS.1) (fun r38 x t H locs ht hvm hw hB _ _ hS => ?_)
    have hP := mB.at ht hB
    clear hB ht hvm
    obtain ⟨rfl, hw⟩ := hw
    have hP : va_P (dC, dI) vwCl (mw ar cy st sl) _ := hP
    clear hw
    exact W.lret (v := r38) hx hb hr (fun t ht hW => ⟨⟨r38, (st, sl), rfl, ⟨rfl, trivial⟩, mB.of ht hP⟩, hS.F ht⟩) hS.2.2 dX12_wordOf_399
  by_cases cw39 : va = 19
  · subst cw39
    refine lv_tableIn (tgt := 400) hx hb dX12_wordOf_1 (by decide) (by decide) rfl (by decide) ?_
    refine lv_bipush (v := 97) hx hb dX12_wordOf_400 (by decide) ?_
    refine lv_bipush (v := 116) hx hb dX12_wordOf_402 (by decide) ?_
    refine lv_iconst (v := 0) hx hb dX12_wordOf_404 (by decide) ?_
    refine lv_iconst (v := 0) hx hb dX12_wordOf_405 (by decide) ?_
    refine lv_iconst (v := 0) hx hb dX12_wordOf_406 (by decide) ?_
    refine lv_iconst (v := 0) hx hb dX12_wordOf_407 (by decide) ?_
    refine lv_iconst (v := 0) hx hb dX12_wordOf_408 (by decide) ?_
    refine va_calll (va_runS (As := [.int 97, .int 116, .int 0, .int 0, .int 0, .int 0, .int 0]) (rest := []) ⟨hx, hb, hml, hown, hts⟩ (m_spelt l dC dI ar cy _ hN st sl 97 116 0 0 0 0 0  hG.1) (va_cwS 7 hts gX12_wordOf_X12_spelt rfl rfl rfl (by decide +kernel) ⟨Nat.le_of_ble_eq_true rfl, Nat.le_of_ble_eq_true rfl⟩) ⟨fun a U g mk q => ⟨q.1, mPre.blind q.2⟩, fun U hU hW => ⟨rfl, mPre.of hP hK hU hW⟩⟩ rfl rfl hl.1 rfl (lv_room (Nat.le_of_ble_eq_true rfl)) dX12_wordOf_409 ⟨Nat.le_of_ble_eq_true rfl, Nat.le_of_ble_eq_true rfl⟩) hS (fun q _ h => MA.le hS.1 q h) (MA.le hS.1) (fun r40 x t H locs ht hvm hw hB _ _ hS => ?_)
    have hP := mB.at ht hB
    clear hB ht hvm
    obtain ⟨rfl, hw⟩ := hw
    have hP : va_P (dC, dI) vwCl (mw ar cy st sl) _ := hP
    clear hw
    exact W.lret (v := r40) hx hb hr (fun t ht hW => ⟨⟨r40, (st, sl), rfl, ⟨rfl, trivial⟩, mB.of ht hP⟩, hS.F ht⟩) hS.2.2 dX12_wordOf_412
  by_cases cw41 : va = 20
  · subst cw41
    refine lv_tableIn (tgt := 413) hx hb dX12_wordOf_1 (by decide) (by decide) rfl (by decide) ?_
    refine lv_bipush (v := 102) hx hb dX12_wordOf_413 (by decide) ?_
    refine lv_bipush (v := 114) hx hb dX12_wordOf_415 (by decide) ?_
    refine lv_bipush (v := 105) hx hb dX12_wordOf_417 (by decide) ?_
    refine lv_bipush (v := 103) hx hb dX12_wordOf_419 (by decide) ?_
    refine lv_bipush (v := 104) hx hb dX12_wordOf_421 (by decide) ?_
    refine lv_bipush (v := 116) hx hb dX12_wordOf_423 (by decide) ?_
    refine lv_bipush (v := 115) hx hb dX12_wordOf_425 (by decide) ?_
    refine va_calll (va_runS (As := [.int 102, .int 114, .int 105, .int 103, .int 104, .int 116, .int 115]) (rest := []) ⟨hx, hb, hml, hown, hts⟩ (m_spelt l dC dI ar cy _ hN st sl 102 114 105 103 104 116 115  hG.1) (va_cwS 7 hts gX12_wordOf_X12_spelt rfl rfl rfl (by decide +kernel) ⟨Nat.le_of_ble_eq_true rfl, Nat.le_of_ble_eq_true rfl⟩) ⟨fun a U g mk q => ⟨q.1, mPre.blind q.2⟩, fun U hU hW => ⟨rfl, mPre.of hP hK hU hW⟩⟩ rfl rfl hl.1 rfl (lv_room (Nat.le_of_ble_eq_true rfl)) dX12_wordOf_427 ⟨Nat.le_of_ble_eq_true rfl, Nat.le_of_ble_eq_true rfl⟩) hS (fun q _ h => MA.le hS.1 q h) (MA.le hS.1) (fun r42 x t H locs ht hvm hw hB _ _ hS => ?_)
    have hP := mB.at ht hB
    clear hB ht hvm
    obtain ⟨rfl, hw⟩ := hw
    have hP : va_P (dC, dI) vwCl (mw ar cy st sl) _ := hP
    clear hw
    exact W.lret (v := r42) hx hb hr (fun t ht hW => ⟨⟨r42, (st, sl), rfl, ⟨rfl, trivial⟩, mB.of ht hP⟩, hS.F ht⟩) hS.2.2 dX12_wordOf_430
  by_cases cw43 : va = 21
  · subst cw43
    refine lv_tableIn (tgt := 431) hx hb dX12_wordOf_1 (by decide) (by decide) rfl (by decide) ?_
    refine lv_bipush (v := 98) hx hb dX12_wordOf_431 (by decide) ?_
    refine lv_bipush (v := 105) hx hb dX12_wordOf_433 (by decide) ?_
    refine lv_bipush (v := 116) hx hb dX12_wordOf_435 (by decide) ?_
    refine lv_bipush (v := 101) hx hb dX12_wordOf_437 (by decide) ?_
    refine lv_bipush (v := 115) hx hb dX12_wordOf_439 (by decide) ?_
    refine lv_iconst (v := 0) hx hb dX12_wordOf_441 (by decide) ?_
    refine lv_iconst (v := 0) hx hb dX12_wordOf_442 (by decide) ?_
    refine va_calll (va_runS (As := [.int 98, .int 105, .int 116, .int 101, .int 115, .int 0, .int 0]) (rest := []) ⟨hx, hb, hml, hown, hts⟩ (m_spelt l dC dI ar cy _ hN st sl 98 105 116 101 115 0 0  hG.1) (va_cwS 7 hts gX12_wordOf_X12_spelt rfl rfl rfl (by decide +kernel) ⟨Nat.le_of_ble_eq_true rfl, Nat.le_of_ble_eq_true rfl⟩) ⟨fun a U g mk q => ⟨q.1, mPre.blind q.2⟩, fun U hU hW => ⟨rfl, mPre.of hP hK hU hW⟩⟩ rfl rfl hl.1 rfl (lv_room (Nat.le_of_ble_eq_true rfl)) dX12_wordOf_443 ⟨Nat.le_of_ble_eq_true rfl, Nat.le_of_ble_eq_true rfl⟩) hS (fun q _ h => MA.le hS.1 q h) (MA.le hS.1) (fun r44 x t H locs ht hvm hw hB _ _ hS => ?_)
    have hP := mB.at ht hB
    clear hB ht hvm
    obtain ⟨rfl, hw⟩ := hw
    have hP : va_P (dC, dI) vwCl (mw ar cy st sl) _ := hP
    clear hw
    exact W.lret (v := r44) hx hb hr (fun t ht hW => ⟨⟨r44, (st, sl), rfl, ⟨rfl, trivial⟩, mB.of ht hP⟩, hS.F ht⟩) hS.2.2 dX12_wordOf_446
  by_cases cw45 : va = 22
  · subst cw45
    refine lv_tableIn (tgt := 447) hx hb dX12_wordOf_1 (by decide) (by decide) rfl (by decide) ?_
    refine lv_bipush (v := 103) hx hb dX12_wordOf_447 (by decide) ?_
    refine lv_bipush (v := 111) hx hb dX12_wordOf_449 (by decide) ?_
    refine lv_bipush (v := 111) hx hb dX12_wordOf_451 (by decide) ?_
    refine lv_bipush (v := 100) hx hb dX12_wordOf_453 (by decide) ?_
    refine lv_iconst (v := 0) hx hb dX12_wordOf_455 (by decide) ?_
    refine lv_iconst (v := 0) hx hb dX12_wordOf_456 (by decide) ?_
    refine lv_iconst (v := 0) hx hb dX12_wordOf_457 (by decide) ?_
    refine va_calll (va_runS (As := [.int 103, .int 111, .int 111, .int 100, .int 0, .int 0, .int 0]) (rest := []) ⟨hx, hb, hml, hown, hts⟩ (m_spelt l dC dI ar cy _ hN st sl 103 111 111 100 0 0 0  hG.1) (va_cwS 7 hts gX12_wordOf_X12_spelt rfl rfl rfl (by decide +kernel) ⟨Nat.le_of_ble_eq_true rfl, Nat.le_of_ble_eq_true rfl⟩) ⟨fun a U g mk q => ⟨q.1, mPre.blind q.2⟩, fun U hU hW => ⟨rfl, mPre.of hP hK hU hW⟩⟩ rfl rfl hl.1 rfl (lv_room (Nat.le_of_ble_eq_true rfl)) dX12_wordOf_458 ⟨Nat.le_of_ble_eq_true rfl, Nat.le_of_ble_eq_true rfl⟩) hS (fun q _ h => MA.le hS.1 q h) (MA.le hS.1) (fun r46 x t H locs ht hvm hw hB _ _ hS => ?_)
    have hP := mB.at ht hB
    clear hB ht hvm
    obtain ⟨rfl, hw⟩ := hw
    have hP : va_P (dC, dI) vwCl (mw ar cy st sl) _ := hP
    clear hw
    exact W.lret (v := r46) hx hb hr (fun t ht hW => ⟨⟨r46, (st, sl), rfl, ⟨rfl, trivial⟩, mB.of ht hP⟩, hS.F ht⟩) hS.2.2 dX12_wordOf_461
  refine lv_tableOut (tgt := 462) hx hb dX12_wordOf_1 (by clear hP hK hS hG hx hb hr hts hown; simp only [Int32.lt_iff_toInt_lt, ← Int32.toInt_inj, Int32.reduceToInt] at cw1 cw3 cw5 cw7 cw9 cw11 cw13 cw15 cw17 cw19 cw21 cw23 cw25 cw27 cw29 cw31 cw33 cw35 cw37 cw39 cw41 cw43 cw45 ⊢; omega) (by decide) ?_
  refine lv_bipush (v := 110) hx hb dX12_wordOf_462 (by decide) ?_
  refine lv_bipush (v := 117) hx hb dX12_wordOf_464 (by decide) ?_
  refine lv_bipush (v := 109) hx hb dX12_wordOf_466 (by decide) ?_
  refine lv_bipush (v := 98) hx hb dX12_wordOf_468 (by decide) ?_
  refine lv_bipush (v := 101) hx hb dX12_wordOf_470 (by decide) ?_
  refine lv_bipush (v := 114) hx hb dX12_wordOf_472 (by decide) ?_
  refine lv_iconst (v := 0) hx hb dX12_wordOf_474 (by decide) ?_
  refine va_calll (va_runS (As := [.int 110, .int 117, .int 109, .int 98, .int 101, .int 114, .int 0]) (rest := []) ⟨hx, hb, hml, hown, hts⟩ (m_spelt l dC dI ar cy _ hN st sl 110 117 109 98 101 114 0  hG.1) (va_cwS 7 hts gX12_wordOf_X12_spelt rfl rfl rfl (by decide +kernel) ⟨Nat.le_of_ble_eq_true rfl, Nat.le_of_ble_eq_true rfl⟩) ⟨fun a U g mk q => ⟨q.1, mPre.blind q.2⟩, fun U hU hW => ⟨rfl, mPre.of hP hK hU hW⟩⟩ rfl rfl hl.1 rfl (lv_room (Nat.le_of_ble_eq_true rfl)) dX12_wordOf_475 ⟨Nat.le_of_ble_eq_true rfl, Nat.le_of_ble_eq_true rfl⟩) hS (fun q _ h => MA.le hS.1 q h) (MA.le hS.1) (fun r47 x t H locs ht hvm hw hB _ _ hS => ?_)
  have hP := mB.at ht hB
  clear hB ht hvm
  obtain ⟨rfl, hw⟩ := hw
  have hP : va_P (dC, dI) vwCl (mw ar cy st sl) _ := hP
  clear hw
  exact W.lret (v := r47) hx hb hr (fun t ht hW => ⟨⟨r47, (st, sl), rfl, ⟨rfl, trivial⟩, mB.of ht hP⟩, hS.F ht⟩) hS.2.2 dX12_wordOf_478
set_option maxHeartbeats 4000000 in
set_option maxRecDepth 100000 in
theorem m_isWord (l : Launch) (dC : Nat → ClassId) (dI : Nat → Nat → Nat) (ar : Nat → Nat) (cy : Nat → ClassId) (sz : Nat) (hN : MN ar) (st : Nat → Nat → Int32) (sl : Nat → Nat → Int64) (va : Int32) (hI : MI st) : Met l yX12_isWord wsX12_isWord ({ frames := 2, cells := 0, slots := 0, locals := 48 }) (va_Pc [.ref (ar 0), .int va] (mPre dC dI ar cy sz st sl)) (va_Qi (fun (r : Int32) (x : MT) => x = (st, sl) ∧ ((r = 1) ∨ (r = 0))) (mB dC dI ar cy) (MA ar sz)) 0 0 (MA ar sz) := by
  refine Met.ofW (cc := cX12_isWord) (maxL := 2) (ret := (some .boolean)) (by decide) rfl ?_
  intro p e s m args below meth c s₁ B hml hv
  obtain ⟨rfl, hsz, hP, hK⟩ := hv
  have hx := B.exec
  have hb := B.bytes
  have hr := B.returns
  have hts := atoms_spec (ws := wsX12_isWord) B.pre
  have hown : s.vm.findClass RX12 = some m.cls := findClass_of_methodNamed B.named
  subst hsz
  have hS : va_S (MA ar s.heap.size) s.heap s.heap [] := va_S.rf
  have hG : MG [1, 2, 3, 4, 5, 6, 7, 8, 9, 10, 11, 12, 13, 14, 15, 16, 17, 19, 20, 21, 22, 23] st st := MG.rf hI
  have hl := lv_entry ([.ref (ar 0), .int va]) (n := 2) (Nat.le_of_ble_eq_true rfl)
  rw [lg_entry_eq]
  generalize (lg_sl ([.ref (ar 0), .int va]) ++ List.replicate (2 - (lg_sl ([.ref (ar 0), .int va])).length) Slot.unset).toArray = ls at hl ⊢
  have hl : lv_has ls 2 [(0, .ref (ar 0)), (1, .int va)] := hl
  clear hI
  refine lv_aload_n hx hb dX12_isWord_0 rfl (lv_at hl 0 rfl) ?_
  refine va_get (D := (dC, dI)) (ci := 11) (v := .int (st 0 7)) (C := RX12) (T := TX12) (N := 47) hx hb hts ii_X12_isWord hown hK hP 0 rfl rfl 7 (by decide) (hts _ mm_X12_isWord_1) (fun _ hh => hh) rfl dX12_isWord_1 ?_
  refine lv_topi (fun z1 ez1 => ?_)
  clear ez1
  refine lv_iconst (v := 2) hx hb dX12_isWord_4 (by decide) ?_
  refine lv_icmp_ne (tgt := 24) hx hb dX12_isWord_5 (by decide) (fun c1 => ?_) (fun c1 => ?_)
  · refine lv_iconst (v := 0) hx hb dX12_isWord_24 (by decide) ?_
    exact W.zret (v := 0) hx hb hr rfl (fun t ht hW => ⟨⟨0, (st, sl), rfl, ⟨rfl, Or.inr (rfl)⟩, mB.of ht hP⟩, hS.F ht⟩) hS.2.2 dX12_isWord_25
  · refine lv_aload_n hx hb dX12_isWord_8 rfl (lv_at hl 0 rfl) ?_
    refine va_get (D := (dC, dI)) (ci := 11) (v := .long (sl 0 12)) (C := RX12) (T := TX12) (N := 47) hx hb hts ii_X12_isWord hown hK hP 0 rfl rfl 12 (by decide) (hts _ mm_X12_isWord_2) (fun _ hh => hh) rfl dX12_isWord_9 ?_
    refine lv_topl (fun z2 ez2 => ?_)
    clear ez2
    refine lv_iload_n hx hb dX12_isWord_12 rfl (lv_at hl 1 rfl) ?_
    refine va_calll (va_runS (As := [.int va]) (rest := [.long z2]) ⟨hx, hb, hml, hown, hts⟩ (m_wordOf l dC dI ar cy _ hN st sl va  hG.1) (va_cwS 1 hts gX12_isWord_X12_wordOf rfl rfl rfl (by decide +kernel) ⟨Nat.le_of_ble_eq_true rfl, Nat.le_of_ble_eq_true rfl⟩) ⟨fun a U g mk q => ⟨q.1, mPre.blind q.2⟩, fun U hU hW => ⟨rfl, mPre.of hP hK hU hW⟩⟩ rfl rfl hl.1 rfl (lv_room (Nat.le_of_ble_eq_true rfl)) dX12_isWord_13 ⟨Nat.le_of_ble_eq_true rfl, Nat.le_of_ble_eq_true rfl⟩) hS (fun q _ h => MA.le hS.1 q h) (MA.le hS.1) (fun r3 x t H locs ht hvm hw hB _ _ hS => ?_)
    have hP := mB.at ht hB
    clear hB ht hvm
    obtain ⟨rfl, hw⟩ := hw
    have hP : va_P (dC, dI) vwCl (mw ar cy st sl) _ := hP
    clear hw
    refine W.lcmp hx hb dX12_isWord_16 ?_
    refine lv_topi (fun z4 ez4 => ?_)
    refine lv_if_ne (tgt := 24) hx hb dX12_isWord_17 (by decide) (fun c2 => ?_) (fun c2 => ?_)
    · refine lv_iconst (v := 0) hx hb dX12_isWord_24 (by decide) ?_
      exact W.zret (v := 0) hx hb hr rfl (fun t ht hW => ⟨⟨0, (st, sl), rfl, ⟨rfl, Or.inr (rfl)⟩, mB.of ht hP⟩, hS.F ht⟩) hS.2.2 dX12_isWord_25
    · refine lv_iconst (v := 1) hx hb dX12_isWord_20 (by decide) ?_
      refine lv_goto (tgt := 25) hx hb dX12_isWord_21 (by decide) ?_
      exact W.zret (v := 1) hx hb hr rfl (fun t ht hW => ⟨⟨1, (st, sl), rfl, ⟨rfl, Or.inl (rfl)⟩, mB.of ht hP⟩, hS.F ht⟩) hS.2.2 dX12_isWord_25
set_option maxHeartbeats 4000000 in
set_option maxRecDepth 100000 in
theorem m_isSign (l : Launch) (dC : Nat → ClassId) (dI : Nat → Nat → Nat) (ar : Nat → Nat) (cy : Nat → ClassId) (sz : Nat) (hN : MN ar) (st : Nat → Nat → Int32) (sl : Nat → Nat → Int64) (va : Int32) (hI : MI st) : Met l yX12_isSign wsX12_isSign ({ frames := 0, cells := 0, slots := 0, locals := 0 }) (va_Pc [.ref (ar 0), .int va] (mPre dC dI ar cy sz st sl)) (va_Qi (fun (r : Int32) (x : MT) => x = (st, sl) ∧ ((r = 1 ∧ st 0 7 = 4) ∨ (r = 0))) (mB dC dI ar cy) (MA ar sz)) 0 0 (MA ar sz) := by
  refine Met.ofW (cc := cX12_isSign) (maxL := 2) (ret := (some .boolean)) (by decide) rfl ?_
  intro p e s m args below meth c s₁ B hml hv
  obtain ⟨rfl, hsz, hP, hK⟩ := hv
  have hx := B.exec
  have hb := B.bytes
  have hr := B.returns
  have hts := atoms_spec (ws := wsX12_isSign) B.pre
  have hown : s.vm.findClass RX12 = some m.cls := findClass_of_methodNamed B.named
  subst hsz
  have hS : va_S (MA ar s.heap.size) s.heap s.heap [] := va_S.rf
  have hG : MG [1, 2, 3, 4, 5, 6, 7, 8, 9, 10, 11, 12, 13, 14, 15, 16, 17, 19, 20, 21, 22, 23] st st := MG.rf hI
  have hl := lv_entry ([.ref (ar 0), .int va]) (n := 2) (Nat.le_of_ble_eq_true rfl)
  rw [lg_entry_eq]
  generalize (lg_sl ([.ref (ar 0), .int va]) ++ List.replicate (2 - (lg_sl ([.ref (ar 0), .int va])).length) Slot.unset).toArray = ls at hl ⊢
  have hl : lv_has ls 2 [(0, .ref (ar 0)), (1, .int va)] := hl
  clear hI
  refine lv_aload_n hx hb dX12_isSign_0 rfl (lv_at hl 0 rfl) ?_
  refine va_get (D := (dC, dI)) (ci := 11) (v := .int (st 0 7)) (C := RX12) (T := TX12) (N := 47) hx hb hts ii_X12_isSign hown hK hP 0 rfl rfl 7 (by decide) (hts _ mm_X12_isSign_1) (fun _ hh => hh) rfl dX12_isSign_1 ?_
  refine lv_topi (fun z1 ez1 => ?_)
  refine lv_iconst (v := 4) hx hb dX12_isSign_4 (by decide) ?_
  refine lv_icmp_ne (tgt := 20) hx hb dX12_isSign_5 (by decide) (fun c1 => ?_) (fun c1 => ?_)
  · refine lv_iconst (v := 0) hx hb dX12_isSign_20 (by decide) ?_
    exact W.zret (v := 0) hx hb hr rfl (fun t ht hW => ⟨⟨0, (st, sl), rfl, ⟨rfl, Or.inr (rfl)⟩, mB.of ht hP⟩, hS.F ht⟩) hS.2.2 dX12_isSign_21
  · refine lv_aload_n hx hb dX12_isSign_8 rfl (lv_at hl 0 rfl) ?_
    refine va_get (D := (dC, dI)) (ci := 11) (v := .int (st 0 9)) (C := RX12) (T := TX12) (N := 47) hx hb hts ii_X12_isSign hown hK hP 0 rfl rfl 9 (by decide) (hts _ mm_X12_isSign_2) (fun _ hh => hh) rfl dX12_isSign_9 ?_
    refine lv_topi (fun z2 ez2 => ?_)
    refine lv_iload_n hx hb dX12_isSign_12 rfl (lv_at hl 1 rfl) ?_
    refine lv_icmp_ne (tgt := 20) hx hb dX12_isSign_13 (by decide) (fun c2 => ?_) (fun c2 => ?_)
    · refine lv_iconst (v := 0) hx hb dX12_isSign_20 (by decide) ?_
      exact W.zret (v := 0) hx hb hr rfl (fun t ht hW => ⟨⟨0, (st, sl), rfl, ⟨rfl, Or.inr (rfl)⟩, mB.of ht hP⟩, hS.F ht⟩) hS.2.2 dX12_isSign_21
    · refine lv_iconst (v := 1) hx hb dX12_isSign_16 (by decide) ?_
      refine lv_goto (tgt := 21) hx hb dX12_isSign_17 (by decide) ?_
      exact W.zret (v := 1) hx hb hr rfl (fun t ht hW => ⟨⟨1, (st, sl), rfl, ⟨rfl, Or.inl (⟨rfl, by rw [← ez1]; exact c1⟩)⟩, mB.of ht hP⟩, hS.F ht⟩) hS.2.2 dX12_isSign_21
set_option maxHeartbeats 4000000 in
set_option maxRecDepth 100000 in
theorem m_isName (l : Launch) (dC : Nat → ClassId) (dI : Nat → Nat → Nat) (ar : Nat → Nat) (cy : Nat → ClassId) (sz : Nat) (hN : MN ar) (st : Nat → Nat → Int32) (sl : Nat → Nat → Int64) (hI : MI st) : Met l yX12_isName wsX12_isName ({ frames := 2, cells := 0, slots := 0, locals := 48 }) (va_Pc [.ref (ar 0)] (mPre dC dI ar cy sz st sl)) (va_Qi (fun (r : Int32) (x : MT) => x = (st, sl) ∧ ((r = 1) ∨ (r = 0))) (mB dC dI ar cy) (MA ar sz)) 0 0 (MA ar sz) := by
  refine Met.ofW (cc := cX12_isName) (maxL := 2) (ret := (some .boolean)) (by decide) rfl ?_
  intro p e s m args below meth c s₁ B hml hv
  obtain ⟨rfl, hsz, hP, hK⟩ := hv
  have hx := B.exec
  have hb := B.bytes
  have hr := B.returns
  have hts := atoms_spec (ws := wsX12_isName) B.pre
  have hown : s.vm.findClass RX12 = some m.cls := findClass_of_methodNamed B.named
  subst hsz
  have hS : va_S (MA ar s.heap.size) s.heap s.heap [] := va_S.rf
  have hG : MG [1, 2, 3, 4, 5, 6, 7, 8, 9, 10, 11, 12, 13, 14, 15, 16, 17, 19, 20, 21, 22, 23] st st := MG.rf hI
  have hl := lv_entry ([.ref (ar 0)]) (n := 2) (Nat.le_of_ble_eq_true rfl)
  rw [lg_entry_eq]
  generalize (lg_sl ([.ref (ar 0)]) ++ List.replicate (2 - (lg_sl ([.ref (ar 0)])).length) Slot.unset).toArray = ls at hl ⊢
  have hl : lv_has ls 2 [(0, .ref (ar 0))] := hl
  clear hI
  refine lv_aload_n hx hb dX12_isName_0 rfl (lv_at hl 0 rfl) ?_
  refine va_get (D := (dC, dI)) (ci := 11) (v := .int (st 0 7)) (C := RX12) (T := TX12) (N := 47) hx hb hts ii_X12_isName hown hK hP 0 rfl rfl 7 (by decide) (hts _ mm_X12_isName_1) (fun _ hh => hh) rfl dX12_isName_1 ?_
  refine lv_topi (fun z1 ez1 => ?_)
  clear ez1
  refine lv_iconst (v := 2) hx hb dX12_isName_4 (by decide) ?_
  refine lv_icmp_eq (tgt := 10) hx hb dX12_isName_5 (by decide) (fun c1 => ?_) (fun c1 => ?_)
  · refine lv_iconst (v := 0) hx hb dX12_isName_10 (by decide) ?_
    refine lv_istore_n (lv' := [(1, .int 0), (0, .ref (ar 0))]) hx hb dX12_isName_11 rfl hl (by decide) rfl (fun ls hl => ?_)
    refine zz_wf (fun n stk H locs ls => ∃ k2 : Nat, n = 25 - k2 ∧ 0 ≤ k2 ∧ k2 < 25 ∧ va_P (dC, dI) vwCl (mw ar cy st sl) H ∧ va_S (MA ar s.heap.size) s.heap H locs ∧ lv_has ls 2 [(1, .int (nI k2)), (0, .ref (ar 0))] ∧ stk = []) ?_ (25 - 0) _ _ _ _ ⟨0, rfl, by omega, by omega, hP, hS, lv_sub hl [0, 1] rfl, rfl⟩
    rintro nn stk H locs ls ⟨k2, hm4, hv3_0, hv4_1, hP, hS, hl, rfl⟩ ih5
    refine lv_iload_n hx hb dX12_isName_12 rfl (lv_at hl 0 rfl) ?_
    refine lv_bipush (v := 23) hx hb dX12_isName_13 (by decide) ?_
    refine lv_icmp_gt (tgt := 38) hx hb dX12_isName_15 (by decide) (fun c2 => ?_) (fun c2 => ?_)
    · have c2 : 23 < k2 := (nI_ltI (a := 23) (b := k2) (by omega) (by omega)).mp c2
      refine lv_iconst (v := 1) hx hb dX12_isName_38 (by decide) ?_
      exact W.zret (v := 1) hx hb hr rfl (fun t ht hW => ⟨⟨1, (st, sl), rfl, ⟨rfl, Or.inl (rfl)⟩, mB.of ht hP⟩, hS.F ht⟩) hS.2.2 dX12_isName_39
    · have c2 : ¬ 23 < k2 := fun hh => c2 ((nI_ltI (a := 23) (b := k2) (by omega) (by omega)).mpr hh)
      refine lv_aload_n hx hb dX12_isName_18 rfl (lv_at hl 1 rfl) ?_
      refine va_get (D := (dC, dI)) (ci := 11) (v := .long (sl 0 12)) (C := RX12) (T := TX12) (N := 47) hx hb hts ii_X12_isName hown hK hP 0 rfl rfl 12 (by decide) (hts _ mm_X12_isName_2) (fun _ hh => hh) rfl dX12_isName_19 ?_
      refine lv_topl (fun z6 ez6 => ?_)
      clear ez6
      refine lv_iload_n hx hb dX12_isName_22 rfl (lv_at hl 0 rfl) ?_
      refine va_calll (va_runS (As := [.int (nI k2)]) (rest := [.long z6]) ⟨hx, hb, hml, hown, hts⟩ (m_wordOf l dC dI ar cy _ hN st sl (nI k2)  hG.1) (va_cwS 1 hts gX12_isName_X12_wordOf rfl rfl rfl (by decide +kernel) ⟨Nat.le_of_ble_eq_true rfl, Nat.le_of_ble_eq_true rfl⟩) ⟨fun a U g mk q => ⟨q.1, mPre.blind q.2⟩, fun U hU hW => ⟨rfl, mPre.of hP hK hU hW⟩⟩ rfl rfl hl.1 rfl (lv_room (Nat.le_of_ble_eq_true rfl)) dX12_isName_23 ⟨Nat.le_of_ble_eq_true rfl, Nat.le_of_ble_eq_true rfl⟩) hS (fun q _ h => MA.le hS.1 q h) (MA.le hS.1) (fun r7 x t H locs ht hvm hw hB _ _ hS => ?_)
      have hP := mB.at ht hB
      clear hB ht hvm
      obtain ⟨rfl, hw⟩ := hw
      have hP : va_P (dC, dI) vwCl (mw ar cy st sl) _ := hP
      clear hw
      refine W.lcmp hx hb dX12_isName_26 ?_
      refine lv_topi (fun z8 ez8 => ?_)
      refine lv_if_ne (tgt := 32) hx hb dX12_isName_27 (by decide) (fun c3 => ?_) (fun c3 => ?_)
      · refine lv_iinc (v := (nI (k2 + 1))) (lv' := [(1, .int (nI (k2 + 1))), (0, .ref (ar 0))]) hx hb dX12_isName_32 hl (k := 0) rfl (nI_add k2 1) (by decide) rfl (fun ls hl => ?_)
        refine lv_goto (tgt := 12) hx hb dX12_isName_35 (by decide) ?_
        exact ih5 (25 - (k2 + 1)) _ _ _ _ (by omega) ⟨(k2 + 1), rfl, by omega, by omega, hP, hS, lv_sub hl [0, 1] rfl, rfl⟩
      · refine lv_iconst (v := 0) hx hb dX12_isName_30 (by decide) ?_
        exact W.zret (v := 0) hx hb hr rfl (fun t ht hW => ⟨⟨0, (st, sl), rfl, ⟨rfl, Or.inr (rfl)⟩, mB.of ht hP⟩, hS.F ht⟩) hS.2.2 dX12_isName_31
  · refine lv_iconst (v := 0) hx hb dX12_isName_8 (by decide) ?_
    exact W.zret (v := 0) hx hb hr rfl (fun t ht hW => ⟨⟨0, (st, sl), rfl, ⟨rfl, Or.inr (rfl)⟩, mB.of ht hP⟩, hS.F ht⟩) hS.2.2 dX12_isName_9
set_option maxHeartbeats 4000000 in
set_option maxRecDepth 100000 in
theorem m_bad (l : Launch) (dC : Nat → ClassId) (dI : Nat → Nat → Nat) (ar : Nat → Nat) (cy : Nat → ClassId) (sz : Nat) (hN : MN ar) (st : Nat → Nat → Int32) (sl : Nat → Nat → Int64) (va : Int32) (hI : MI st) : Met l yX12_bad wsX12_bad ({ frames := 0, cells := 0, slots := 0, locals := 0 }) (va_Pc [.ref (ar 0), .int va] (mPre dC dI ar cy sz st sl)) (va_Qi (fun (r : Int32) (x : MT) => MG [1, 2, 3, 4, 5, 6, 7, 8, 9, 10, 11, 12, 13, 14, 15, 16, 17, 19, 20, 21, 22] st x.1 ∧ LQ [7, 9] sl x.2 ∧ (r = 0)) (mB dC dI ar cy) (MA ar sz)) 0 0 (MA ar sz) := by
  refine Met.ofW (cc := cX12_bad) (maxL := 2) (ret := (some .boolean)) (by decide) rfl ?_
  intro p e s m args below meth c s₁ B hml hv
  obtain ⟨rfl, hsz, hP, hK⟩ := hv
  have hx := B.exec
  have hb := B.bytes
  have hr := B.returns
  have hts := atoms_spec (ws := wsX12_bad) B.pre
  have hown : s.vm.findClass RX12 = some m.cls := findClass_of_methodNamed B.named
  subst hsz
  have hS : va_S (MA ar s.heap.size) s.heap s.heap [] := va_S.rf
  have hG : MG [1, 2, 3, 4, 5, 6, 7, 8, 9, 10, 11, 12, 13, 14, 15, 16, 17, 19, 20, 21, 22] st st := MG.rf hI
  have hl := lv_entry ([.ref (ar 0), .int va]) (n := 2) (Nat.le_of_ble_eq_true rfl)
  rw [lg_entry_eq]
  generalize (lg_sl ([.ref (ar 0), .int va]) ++ List.replicate (2 - (lg_sl ([.ref (ar 0), .int va])).length) Slot.unset).toArray = ls at hl ⊢
  have hl : lv_has ls 2 [(0, .ref (ar 0)), (1, .int va)] := hl
  clear hI
  have hL : LQ [7, 9] sl sl := LQ.rf
  refine lv_aload_n hx hb dX12_bad_0 rfl (lv_at hl 0 rfl) ?_
  refine lv_aload_n hx hb dX12_bad_1 rfl (lv_at hl 0 rfl) ?_
  refine va_get (D := (dC, dI)) (ci := 11) (v := .int (st 0 7)) (C := RX12) (T := TX12) (N := 47) hx hb hts ii_X12_bad hown hK hP 0 rfl rfl 7 (by decide) (hts _ mm_X12_bad_1) (fun _ hh => hh) rfl dX12_bad_2 ?_
  refine lv_topi (fun z1 ez1 => ?_)
  clear ez1
  refine lv_iconst (v := 1) hx hb dX12_bad_5 (by decide) ?_
  refine lv_icmp_ne (tgt := 13) hx hb dX12_bad_6 (by decide) (fun c1 => ?_) (fun c1 => ?_)
  · refine lv_iload_n hx hb dX12_bad_13 rfl (lv_at hl 1 rfl) ?_
    refine va_put (D := (dC, dI)) (ci := 11) (v := .int va) (ty := .int) (C := RX12) (T := TX12) (N := 47) hx hb hts ii_X12_bad tyX12 tyX12_ok nmX12 hown hK hP (mD hN _ _ _ _) hS 0 rfl rfl 10 (by decide) (hts _ mm_X12_bad_2) (fun _ hh => hh) rfl (by decide +kernel) rfl rfl (Nat.le_of_ble_eq_true rfl) dX12_bad_14 (fun H locs hP _ hS => ?_)
    have hP : va_P (dC, dI) vwCl (mw ar cy (up2 st 0 10 va) sl) H := hP
    obtain ⟨st2, hP, hG⟩ : ∃ y, va_P (dC, dI) vwCl (mw ar cy y sl) H ∧ MG [1, 2, 3, 4, 5, 6, 7, 8, 9, 10, 11, 12, 13, 14, 15, 16, 17, 19, 20, 21, 22] st y := ⟨up2 st 0 10 va, hP, hG.up (rz (by decide : mr 0 10 = 0)) (pn (by decide : pcl 0 10 = 23) (by decide))⟩
    refine lv_aload_n hx hb dX12_bad_17 rfl (lv_at hl 0 rfl) ?_
    refine lv_aload_n hx hb dX12_bad_18 rfl (lv_at hl 0 rfl) ?_
    refine va_get (D := (dC, dI)) (ci := 11) (v := .int (st2 0 6)) (C := RX12) (T := TX12) (N := 47) hx hb hts ii_X12_bad hown hK hP 0 rfl rfl 6 (by decide) (hts _ mm_X12_bad_3) (fun _ hh => hh) rfl dX12_bad_19 ?_
    refine lv_topi (fun z3 ez3 => ?_)
    clear ez3
    refine va_put (D := (dC, dI)) (ci := 11) (v := .int z3) (ty := .int) (C := RX12) (T := TX12) (N := 47) hx hb hts ii_X12_bad tyX12 tyX12_ok nmX12 hown hK hP (mD hN _ _ _ _) hS 0 rfl rfl 11 (by decide) (hts _ mm_X12_bad_4) (fun _ hh => hh) rfl (by decide +kernel) rfl rfl (Nat.le_of_ble_eq_true rfl) dX12_bad_22 (fun H locs hP _ hS => ?_)
    have hP : va_P (dC, dI) vwCl (mw ar cy (up2 st2 0 11 z3) sl) H := hP
    obtain ⟨st4, hP, hG⟩ : ∃ y, va_P (dC, dI) vwCl (mw ar cy y sl) H ∧ MG [1, 2, 3, 4, 5, 6, 7, 8, 9, 10, 11, 12, 13, 14, 15, 16, 17, 19, 20, 21, 22] st y := ⟨up2 st2 0 11 z3, hP, hG.up (rz (by decide : mr 0 11 = 0)) (pn (by decide : pcl 0 11 = 0) (by decide))⟩
    refine lv_iconst (v := 0) hx hb dX12_bad_25 (by decide) ?_
    exact W.zret (v := 0) hx hb hr rfl (fun t ht hW => ⟨⟨0, (st4, sl), rfl, ⟨hG, hL, rfl⟩, mB.of ht hP⟩, hS.F ht⟩) hS.2.2 dX12_bad_26
  · refine lv_iconst (v := 1) hx hb dX12_bad_9 (by decide) ?_
    refine lv_goto (tgt := 14) hx hb dX12_bad_10 (by decide) ?_
    refine va_put (D := (dC, dI)) (ci := 11) (v := .int 1) (ty := .int) (C := RX12) (T := TX12) (N := 47) hx hb hts ii_X12_bad tyX12 tyX12_ok nmX12 hown hK hP (mD hN _ _ _ _) hS 0 rfl rfl 10 (by decide) (hts _ mm_X12_bad_2) (fun _ hh => hh) rfl (by decide +kernel) rfl rfl (Nat.le_of_ble_eq_true rfl) dX12_bad_14 (fun H locs hP _ hS => ?_)
    have hP : va_P (dC, dI) vwCl (mw ar cy (up2 st 0 10 1) sl) H := hP
    obtain ⟨st5, hP, hG⟩ : ∃ y, va_P (dC, dI) vwCl (mw ar cy y sl) H ∧ MG [1, 2, 3, 4, 5, 6, 7, 8, 9, 10, 11, 12, 13, 14, 15, 16, 17, 19, 20, 21, 22] st y := ⟨up2 st 0 10 1, hP, hG.up (rz (by decide : mr 0 10 = 0)) (pn (by decide : pcl 0 10 = 23) (by decide))⟩
    refine lv_aload_n hx hb dX12_bad_17 rfl (lv_at hl 0 rfl) ?_
    refine lv_aload_n hx hb dX12_bad_18 rfl (lv_at hl 0 rfl) ?_
    refine va_get (D := (dC, dI)) (ci := 11) (v := .int (st5 0 6)) (C := RX12) (T := TX12) (N := 47) hx hb hts ii_X12_bad hown hK hP 0 rfl rfl 6 (by decide) (hts _ mm_X12_bad_3) (fun _ hh => hh) rfl dX12_bad_19 ?_
    refine lv_topi (fun z6 ez6 => ?_)
    clear ez6
    refine va_put (D := (dC, dI)) (ci := 11) (v := .int z6) (ty := .int) (C := RX12) (T := TX12) (N := 47) hx hb hts ii_X12_bad tyX12 tyX12_ok nmX12 hown hK hP (mD hN _ _ _ _) hS 0 rfl rfl 11 (by decide) (hts _ mm_X12_bad_4) (fun _ hh => hh) rfl (by decide +kernel) rfl rfl (Nat.le_of_ble_eq_true rfl) dX12_bad_22 (fun H locs hP _ hS => ?_)
    have hP : va_P (dC, dI) vwCl (mw ar cy (up2 st5 0 11 z6) sl) H := hP
    obtain ⟨st7, hP, hG⟩ : ∃ y, va_P (dC, dI) vwCl (mw ar cy y sl) H ∧ MG [1, 2, 3, 4, 5, 6, 7, 8, 9, 10, 11, 12, 13, 14, 15, 16, 17, 19, 20, 21, 22] st y := ⟨up2 st5 0 11 z6, hP, hG.up (rz (by decide : mr 0 11 = 0)) (pn (by decide : pcl 0 11 = 0) (by decide))⟩
    refine lv_iconst (v := 0) hx hb dX12_bad_25 (by decide) ?_
    exact W.zret (v := 0) hx hb hr rfl (fun t ht hW => ⟨⟨0, (st7, sl), rfl, ⟨hG, hL, rfl⟩, mB.of ht hP⟩, hS.F ht⟩) hS.2.2 dX12_bad_26
set_option maxHeartbeats 4000000 in
set_option maxRecDepth 100000 in
theorem m_readNumber (l : Launch) (dC : Nat → ClassId) (dI : Nat → Nat → Nat) (ar : Nat → Nat) (cy : Nat → ClassId) (sz : Nat) (hN : MN ar) (st : Nat → Nat → Int32) (sl : Nat → Nat → Int64) (va : Int32) (vb : Int32) (ga gb : Nat) (hI : MI st) (hT : TS st ga gb) : Met l yX12_readNumber wsX12_readNumber ({ frames := 2, cells := 0, slots := 0, locals := 45 }) (va_Pc [.ref (ar 0), .int va, .int vb] (mPre dC dI ar cy sz st sl)) (va_Qi (fun (r : Int32) (x : MT) => MG [1, 2, 3, 6, 7, 8, 9, 10, 11, 12, 13, 14, 15, 19, 20, 21, 22] st x.1 ∧ LQ [7, 9] sl x.2 ∧ ((∃ g : Nat, ∃ z : Int32, r = 1 ∧ TS x.1 g gb ∧ ga ≤ g ∧ (x.1 0 7 = 4 → ga < g) ∧ x.1 0 13 = z ∧ va ≤ z ∧ z ≤ vb) ∨ (r = 0))) (mB dC dI ar cy) (MA ar sz)) 0 0 (MA ar sz) := by
  refine Met.ofW (cc := cX12_readNumber) (maxL := 3) (ret := (some .boolean)) (by decide) rfl ?_
  intro p e s m args below meth c s₁ B hml hv
  obtain ⟨rfl, hsz, hP, hK⟩ := hv
  have hx := B.exec
  have hb := B.bytes
  have hr := B.returns
  have hts := atoms_spec (ws := wsX12_readNumber) B.pre
  have hown : s.vm.findClass RX12 = some m.cls := findClass_of_methodNamed B.named
  subst hsz
  have hS : va_S (MA ar s.heap.size) s.heap s.heap [] := va_S.rf
  have hG : MG [1, 2, 3, 6, 7, 8, 9, 10, 11, 12, 13, 14, 15, 19, 20, 21, 22] st st := MG.rf hI
  have hl := lv_entry ([.ref (ar 0), .int va, .int vb]) (n := 3) (Nat.le_of_ble_eq_true rfl)
  rw [lg_entry_eq]
  generalize (lg_sl ([.ref (ar 0), .int va, .int vb]) ++ List.replicate (3 - (lg_sl ([.ref (ar 0), .int va, .int vb])).length) Slot.unset).toArray = ls at hl ⊢
  have hl : lv_has ls 3 [(0, .ref (ar 0)), (1, .int va), (2, .int vb)] := hl
  clear hI
  have hL : LQ [7, 9] sl sl := LQ.rf
  have hTc := hT.2.2.1
  have hTd := hT.2.2.2
  have hga : ga ≤ ga := Nat.le_refl ga
  refine lv_aload_n hx hb dX12_readNumber_0 rfl (lv_at hl 0 rfl) ?_
  refine va_get (D := (dC, dI)) (ci := 11) (v := .int (st 0 7)) (C := RX12) (T := TX12) (N := 47) hx hb hts ii_X12_readNumber hown hK hP 0 rfl rfl 7 (by decide) (hts _ mm_X12_readNumber_1) (fun _ hh => hh) rfl dX12_readNumber_1 ?_
  refine lv_topi (fun z1 ez1 => ?_)
  refine lv_iconst (v := 3) hx hb dX12_readNumber_4 (by decide) ?_
  refine lv_icmp_eq (tgt := 14) hx hb dX12_readNumber_5 (by decide) (fun c1 => ?_) (fun c1 => ?_)
  · refine lv_aload_n hx hb dX12_readNumber_14 rfl (lv_at hl 0 rfl) ?_
    refine va_get (D := (dC, dI)) (ci := 11) (v := .int (st 0 8)) (C := RX12) (T := TX12) (N := 47) hx hb hts ii_X12_readNumber hown hK hP 0 rfl rfl 8 (by decide) (hts _ mm_X12_readNumber_2) (fun _ hh => hh) rfl dX12_readNumber_15 ?_
    refine lv_topi (fun z2 ez2 => ?_)
    refine lv_iload_n hx hb dX12_readNumber_18 rfl (lv_at hl 1 rfl) ?_
    refine lv_iload_n hx hb dX12_readNumber_19 rfl (lv_at hl 2 rfl) ?_
    refine va_calli (va_runS (As := [.int z2, .int va, .int vb]) (rest := []) ⟨hx, hb, hml, hown, hts⟩ (m_isIn l dC dI ar cy _ hN st sl z2 va vb  hG.1) (va_cwS 3 hts gX12_readNumber_X12_isIn rfl rfl rfl (by decide +kernel) ⟨Nat.le_of_ble_eq_true rfl, Nat.le_of_ble_eq_true rfl⟩) ⟨fun a U g mk q => ⟨q.1, mPre.blind q.2⟩, fun U hU hW => ⟨rfl, mPre.of hP hK hU hW⟩⟩ rfl rfl hl.1 rfl (lv_room (Nat.le_of_ble_eq_true rfl)) dX12_readNumber_20 ⟨Nat.le_of_ble_eq_true rfl, Nat.le_of_ble_eq_true rfl⟩) hS (fun q _ h => MA.le hS.1 q h) (MA.le hS.1) (fun r3 x t H locs ht hvm hw hB _ _ hS => ?_)
    have hP := mB.at ht hB
    clear hB ht hvm
    obtain ⟨rfl, hw⟩ := hw
    have hP : va_P (dC, dI) vwCl (mw ar cy st sl) _ := hP
    rcases hw with ⟨rfl, hf4, hf5⟩ | rfl
    · refine lv_if_ne (tgt := 32) hx hb dX12_readNumber_23 (by decide) (fun _ => ?_) (fun cc => absurd cc (by decide))
      refine lv_aload_n hx hb dX12_readNumber_32 rfl (lv_at hl 0 rfl) ?_
      refine lv_aload_n hx hb dX12_readNumber_33 rfl (lv_at hl 0 rfl) ?_
      refine va_get (D := (dC, dI)) (ci := 11) (v := .int (st 0 8)) (C := RX12) (T := TX12) (N := 47) hx hb hts ii_X12_readNumber hown hK hP 0 rfl rfl 8 (by decide) (hts _ mm_X12_readNumber_2) (fun _ hh => hh) rfl dX12_readNumber_34 ?_
      refine zz_top (v := z2) (by show st 0 8 = _; rw [← ez2]) ?_
      refine va_put (D := (dC, dI)) (ci := 11) (v := .int z2) (ty := .int) (C := RX12) (T := TX12) (N := 47) hx hb hts ii_X12_readNumber tyX12 tyX12_ok nmX12 hown hK hP (mD hN _ _ _ _) hS 0 rfl rfl 13 (by decide) (hts _ mm_X12_readNumber_3) (fun _ hh => hh) rfl (by decide +kernel) rfl rfl (Nat.le_of_ble_eq_true rfl) dX12_readNumber_37 (fun H locs hP _ hS => ?_)
      have hP : va_P (dC, dI) vwCl (mw ar cy (up2 st 0 13 z2) sl) H := hP
      obtain ⟨st6, est6⟩ : ∃ y, y = up2 st 0 13 z2 := ⟨_, rfl⟩
      have hG : MG [1, 2, 3, 6, 7, 8, 9, 10, 11, 12, 13, 14, 15, 19, 20, 21, 22] st st6 := by rw [est6]; exact hG.up (rz (by decide : mr 0 13 = 0)) (pn (by decide : pcl 0 13 = 16) (by decide))
      rw [← est6] at hP
      refine lv_aload_n hx hb dX12_readNumber_40 rfl (lv_at hl 0 rfl) ?_
      refine va_callv (va_runV (As := []) (rest := []) ⟨hx, hb, hml, hown, hts⟩ (m_go l dC dI ar cy _ hN st6 sl ga gb  hG.1 ((⟨by rw [est6, up2_ne (r := 0) (k := 13) (a := 0) (j := 5) _ _ (by omega), hT.1], by rw [est6, up2_ne (r := 0) (k := 13) (a := 0) (j := 3) _ _ (by omega), hT.2.1], by omega, by omega⟩ : TS st6 ga gb))) (cwV 0 hts gX12_readNumber_X12_go rfl rfl rfl (by decide +kernel) ⟨Nat.le_of_ble_eq_true rfl, Nat.le_of_ble_eq_true rfl⟩) ⟨fun a U g mk q => ⟨q.1, mPre.blind q.2⟩, va_recv hK hP (ci := 11) (q0 := 0) rfl rfl, fun U hU hW => ⟨rfl, mPre.of hP hK hU hW⟩⟩ rfl rfl hl.1 rfl (lv_room (Nat.le_of_ble_eq_true rfl)) dX12_readNumber_41 ⟨Nat.le_of_ble_eq_true rfl, Nat.le_of_ble_eq_true rfl⟩) hS (fun q _ h => MA.le hS.1 q h) (MA.le hS.1) (fun x t H locs ht hvm hw hB _ _ hS => ?_)
      have hP := mB.at ht hB
      clear hB ht hvm
      obtain ⟨st8, sl9⟩ := x
      obtain ⟨hG2, hL2, hw⟩ := hw
      have hL : LQ [7, 9] sl sl9 := hL.tr hL2 (by decide)
      clear hL2
      dsimp only at hw
      have hP : va_P (dC, dI) vwCl (mw ar cy st8 sl9) _ := hP
      have hG : MG [1, 2, 3, 6, 7, 8, 9, 10, 11, 12, 13, 14, 15, 19, 20, 21, 22] st st8 := hG.tr hG2 (by decide)
      have hGst8 : MG [1, 2, 3, 6, 7, 8, 9, 10, 11, 12, 13, 14, 15, 16, 19, 20, 21, 22, 23] st6 st8 := hG2
      clear hG2
      obtain ⟨n10, hf11, hf12, hf13⟩ := hw
      have hf11c := hf11.2.2.1
      have hf11d := hf11.2.2.2
      refine lv_iconst (v := 1) hx hb dX12_readNumber_44 (by decide) ?_
      exact W.zret (v := 1) hx hb hr rfl (fun t ht hW => ⟨⟨1, (st8, sl9), rfl, ⟨hG, hL, Or.inl (⟨n10, z2, rfl, (show TS st8 n10 gb from ⟨by rw [hf11.1], by rw [hf11.2.1], by omega, by omega⟩), by omega, fun (hh : st8 0 7 = 4) => by have hk := hf13 (by exact hh); omega, by show st8 0 13 = z2; rw [hGst8.2 0 13 (by decide), est6, up2_same], hf4, hf5⟩)⟩, mB.of ht hP⟩, hS.F ht⟩) hS.2.2 dX12_readNumber_45
    · refine lv_if_ne (tgt := 32) hx hb dX12_readNumber_23 (by decide) (fun cc => absurd (by decide) cc) (fun _ => ?_)
      refine lv_aload_n hx hb dX12_readNumber_26 rfl (lv_at hl 0 rfl) ?_
      refine lv_iconst (v := 2) hx hb dX12_readNumber_27 (by decide) ?_
      refine va_calli (va_runV (As := [.int 2]) (rest := []) ⟨hx, hb, hml, hown, hts⟩ (m_bad l dC dI ar cy _ hN st sl 2  hG.1) (cwV 1 hts gX12_readNumber_X12_bad rfl rfl rfl (by decide +kernel) ⟨Nat.le_of_ble_eq_true rfl, Nat.le_of_ble_eq_true rfl⟩) ⟨fun a U g mk q => ⟨q.1, mPre.blind q.2⟩, va_recv hK hP (ci := 11) (q0 := 0) rfl rfl, fun U hU hW => ⟨rfl, mPre.of hP hK hU hW⟩⟩ rfl rfl hl.1 rfl (lv_room (Nat.le_of_ble_eq_true rfl)) dX12_readNumber_28 ⟨Nat.le_of_ble_eq_true rfl, Nat.le_of_ble_eq_true rfl⟩) hS (fun q _ h => MA.le hS.1 q h) (MA.le hS.1) (fun r14 x t H locs ht hvm hw hB _ _ hS => ?_)
      have hP := mB.at ht hB
      clear hB ht hvm
      obtain ⟨st15, sl16⟩ := x
      obtain ⟨hG2, hL2, hw⟩ := hw
      have hL : LQ [7, 9] sl sl16 := hL.tr hL2 (by decide)
      clear hL2
      have hP : va_P (dC, dI) vwCl (mw ar cy st15 sl16) _ := hP
      have hG : MG [1, 2, 3, 6, 7, 8, 9, 10, 11, 12, 13, 14, 15, 19, 20, 21, 22] st st15 := hG.tr hG2 (by decide)
      have hGst15 : MG [1, 2, 3, 4, 5, 6, 7, 8, 9, 10, 11, 12, 13, 14, 15, 16, 17, 19, 20, 21, 22] st st15 := hG2
      clear hG2
      obtain rfl := hw
      exact W.zret (v := 0) hx hb hr rfl (fun t ht hW => ⟨⟨0, (st15, sl16), rfl, ⟨hG, hL, Or.inr (rfl)⟩, mB.of ht hP⟩, hS.F ht⟩) hS.2.2 dX12_readNumber_31
  · refine lv_aload_n hx hb dX12_readNumber_8 rfl (lv_at hl 0 rfl) ?_
    refine lv_iconst (v := 1) hx hb dX12_readNumber_9 (by decide) ?_
    refine va_calli (va_runV (As := [.int 1]) (rest := []) ⟨hx, hb, hml, hown, hts⟩ (m_bad l dC dI ar cy _ hN st sl 1  hG.1) (cwV 1 hts gX12_readNumber_X12_bad rfl rfl rfl (by decide +kernel) ⟨Nat.le_of_ble_eq_true rfl, Nat.le_of_ble_eq_true rfl⟩) ⟨fun a U g mk q => ⟨q.1, mPre.blind q.2⟩, va_recv hK hP (ci := 11) (q0 := 0) rfl rfl, fun U hU hW => ⟨rfl, mPre.of hP hK hU hW⟩⟩ rfl rfl hl.1 rfl (lv_room (Nat.le_of_ble_eq_true rfl)) dX12_readNumber_10 ⟨Nat.le_of_ble_eq_true rfl, Nat.le_of_ble_eq_true rfl⟩) hS (fun q _ h => MA.le hS.1 q h) (MA.le hS.1) (fun r17 x t H locs ht hvm hw hB _ _ hS => ?_)
    have hP := mB.at ht hB
    clear hB ht hvm
    obtain ⟨st18, sl19⟩ := x
    obtain ⟨hG2, hL2, hw⟩ := hw
    have hL : LQ [7, 9] sl sl19 := hL.tr hL2 (by decide)
    clear hL2
    have hP : va_P (dC, dI) vwCl (mw ar cy st18 sl19) _ := hP
    have hG : MG [1, 2, 3, 6, 7, 8, 9, 10, 11, 12, 13, 14, 15, 19, 20, 21, 22] st st18 := hG.tr hG2 (by decide)
    have hGst18 : MG [1, 2, 3, 4, 5, 6, 7, 8, 9, 10, 11, 12, 13, 14, 15, 16, 17, 19, 20, 21, 22] st st18 := hG2
    clear hG2
    obtain rfl := hw
    exact W.zret (v := 0) hx hb hr rfl (fun t ht hW => ⟨⟨0, (st18, sl19), rfl, ⟨hG, hL, Or.inr (rfl)⟩, mB.of ht hP⟩, hS.F ht⟩) hS.2.2 dX12_readNumber_13
set_option maxHeartbeats 4000000 in
set_option maxRecDepth 100000 in
theorem m_readEnd (l : Launch) (dC : Nat → ClassId) (dI : Nat → Nat → Nat) (ar : Nat → Nat) (cy : Nat → ClassId) (sz : Nat) (hN : MN ar) (st : Nat → Nat → Int32) (sl : Nat → Nat → Int64) (ga gb : Nat) (hI : MI st) (hT : TS st ga gb) : Met l yX12_readEnd wsX12_readEnd ({ frames := 2, cells := 0, slots := 0, locals := 45 }) (va_Pc [.ref (ar 0)] (mPre dC dI ar cy sz st sl)) (va_Qi (fun (r : Int32) (x : MT) => MG [1, 2, 3, 6, 7, 8, 9, 10, 11, 12, 13, 14, 15, 19, 20, 21, 22] st x.1 ∧ LQ [7, 9] sl x.2 ∧ ((∃ g : Nat, r = 1 ∧ TS x.1 g gb ∧ ga ≤ g ∧ (x.1 0 7 = 4 → ga < g) ∧ st 0 7 = 4) ∨ (r = 0))) (mB dC dI ar cy) (MA ar sz)) 0 0 (MA ar sz) := by
  refine Met.ofW (cc := cX12_readEnd) (maxL := 1) (ret := (some .boolean)) (by decide) rfl ?_
  intro p e s m args below meth c s₁ B hml hv
  obtain ⟨rfl, hsz, hP, hK⟩ := hv
  have hx := B.exec
  have hb := B.bytes
  have hr := B.returns
  have hts := atoms_spec (ws := wsX12_readEnd) B.pre
  have hown : s.vm.findClass RX12 = some m.cls := findClass_of_methodNamed B.named
  subst hsz
  have hS : va_S (MA ar s.heap.size) s.heap s.heap [] := va_S.rf
  have hG : MG [1, 2, 3, 6, 7, 8, 9, 10, 11, 12, 13, 14, 15, 19, 20, 21, 22] st st := MG.rf hI
  have hl := lv_entry ([.ref (ar 0)]) (n := 1) (Nat.le_of_ble_eq_true rfl)
  rw [lg_entry_eq]
  generalize (lg_sl ([.ref (ar 0)]) ++ List.replicate (1 - (lg_sl ([.ref (ar 0)])).length) Slot.unset).toArray = ls at hl ⊢
  have hl : lv_has ls 1 [(0, .ref (ar 0))] := hl
  clear hI
  have hL : LQ [7, 9] sl sl := LQ.rf
  have hTc := hT.2.2.1
  have hTd := hT.2.2.2
  have hga : ga ≤ ga := Nat.le_refl ga
  refine lv_aload_n hx hb dX12_readEnd_0 rfl (lv_at hl 0 rfl) ?_
  refine lv_bipush (v := 59) hx hb dX12_readEnd_1 (by decide) ?_
  refine va_calli (va_runV (As := [.int 59]) (rest := []) ⟨hx, hb, hml, hown, hts⟩ (m_isSign l dC dI ar cy _ hN st sl 59  hG.1) (cwV 1 hts gX12_readEnd_X12_isSign rfl rfl rfl (by decide +kernel) ⟨Nat.le_of_ble_eq_true rfl, Nat.le_of_ble_eq_true rfl⟩) ⟨fun a U g mk q => ⟨q.1, mPre.blind q.2⟩, va_recv hK hP (ci := 11) (q0 := 0) rfl rfl, fun U hU hW => ⟨rfl, mPre.of hP hK hU hW⟩⟩ rfl rfl hl.1 rfl (lv_room (Nat.le_of_ble_eq_true rfl)) dX12_readEnd_3 ⟨Nat.le_of_ble_eq_true rfl, Nat.le_of_ble_eq_true rfl⟩) hS (fun q _ h => MA.le hS.1 q h) (MA.le hS.1) (fun r1 x t H locs ht hvm hw hB _ _ hS => ?_)
  have hP := mB.at ht hB
  clear hB ht hvm
  obtain ⟨rfl, hw⟩ := hw
  have hP : va_P (dC, dI) vwCl (mw ar cy st sl) _ := hP
  rcases hw with ⟨rfl, hf2⟩ | rfl
  · refine lv_if_ne (tgt := 15) hx hb dX12_readEnd_6 (by decide) (fun _ => ?_) (fun cc => absurd cc (by decide))
    refine lv_aload_n hx hb dX12_readEnd_15 rfl (lv_at hl 0 rfl) ?_
    refine va_callv (va_runV (As := []) (rest := []) ⟨hx, hb, hml, hown, hts⟩ (m_go l dC dI ar cy _ hN st sl ga gb  hG.1 ((⟨by rw [hT.1], by rw [hT.2.1], by omega, by omega⟩ : TS st ga gb))) (cwV 0 hts gX12_readEnd_X12_go rfl rfl rfl (by decide +kernel) ⟨Nat.le_of_ble_eq_true rfl, Nat.le_of_ble_eq_true rfl⟩) ⟨fun a U g mk q => ⟨q.1, mPre.blind q.2⟩, va_recv hK hP (ci := 11) (q0 := 0) rfl rfl, fun U hU hW => ⟨rfl, mPre.of hP hK hU hW⟩⟩ rfl rfl hl.1 rfl (lv_room (Nat.le_of_ble_eq_true rfl)) dX12_readEnd_16 ⟨Nat.le_of_ble_eq_true rfl, Nat.le_of_ble_eq_true rfl⟩) hS (fun q _ h => MA.le hS.1 q h) (MA.le hS.1) (fun x t H locs ht hvm hw hB _ _ hS => ?_)
    have hP := mB.at ht hB
    clear hB ht hvm
    obtain ⟨st4, sl5⟩ := x
    obtain ⟨hG2, hL2, hw⟩ := hw
    have hL : LQ [7, 9] sl sl5 := hL.tr hL2 (by decide)
    clear hL2
    dsimp only at hw
    have hP : va_P (dC, dI) vwCl (mw ar cy st4 sl5) _ := hP
    have hG : MG [1, 2, 3, 6, 7, 8, 9, 10, 11, 12, 13, 14, 15, 19, 20, 21, 22] st st4 := hG.tr hG2 (by decide)
    have hGst4 : MG [1, 2, 3, 6, 7, 8, 9, 10, 11, 12, 13, 14, 15, 16, 19, 20, 21, 22, 23] st st4 := hG2
    clear hG2
    obtain ⟨n6, hf7, hf8, hf9⟩ := hw
    have hf7c := hf7.2.2.1
    have hf7d := hf7.2.2.2
    refine lv_iconst (v := 1) hx hb dX12_readEnd_19 (by decide) ?_
    exact W.zret (v := 1) hx hb hr rfl (fun t ht hW => ⟨⟨1, (st4, sl5), rfl, ⟨hG, hL, Or.inl (⟨n6, rfl, (show TS st4 n6 gb from ⟨by rw [hf7.1], by rw [hf7.2.1], by omega, by omega⟩), by omega, fun (hh : st4 0 7 = 4) => by have hk := hf9 (by exact hh); omega, hf2⟩)⟩, mB.of ht hP⟩, hS.F ht⟩) hS.2.2 dX12_readEnd_20
  · refine lv_if_ne (tgt := 15) hx hb dX12_readEnd_6 (by decide) (fun cc => absurd (by decide) cc) (fun _ => ?_)
    refine lv_aload_n hx hb dX12_readEnd_9 rfl (lv_at hl 0 rfl) ?_
    refine lv_iconst (v := 1) hx hb dX12_readEnd_10 (by decide) ?_
    refine va_calli (va_runV (As := [.int 1]) (rest := []) ⟨hx, hb, hml, hown, hts⟩ (m_bad l dC dI ar cy _ hN st sl 1  hG.1) (cwV 1 hts gX12_readEnd_X12_bad rfl rfl rfl (by decide +kernel) ⟨Nat.le_of_ble_eq_true rfl, Nat.le_of_ble_eq_true rfl⟩) ⟨fun a U g mk q => ⟨q.1, mPre.blind q.2⟩, va_recv hK hP (ci := 11) (q0 := 0) rfl rfl, fun U hU hW => ⟨rfl, mPre.of hP hK hU hW⟩⟩ rfl rfl hl.1 rfl (lv_room (Nat.le_of_ble_eq_true rfl)) dX12_readEnd_11 ⟨Nat.le_of_ble_eq_true rfl, Nat.le_of_ble_eq_true rfl⟩) hS (fun q _ h => MA.le hS.1 q h) (MA.le hS.1) (fun r10 x t H locs ht hvm hw hB _ _ hS => ?_)
    have hP := mB.at ht hB
    clear hB ht hvm
    obtain ⟨st11, sl12⟩ := x
    obtain ⟨hG2, hL2, hw⟩ := hw
    have hL : LQ [7, 9] sl sl12 := hL.tr hL2 (by decide)
    clear hL2
    have hP : va_P (dC, dI) vwCl (mw ar cy st11 sl12) _ := hP
    have hG : MG [1, 2, 3, 6, 7, 8, 9, 10, 11, 12, 13, 14, 15, 19, 20, 21, 22] st st11 := hG.tr hG2 (by decide)
    have hGst11 : MG [1, 2, 3, 4, 5, 6, 7, 8, 9, 10, 11, 12, 13, 14, 15, 16, 17, 19, 20, 21, 22] st st11 := hG2
    clear hG2
    obtain rfl := hw
    exact W.zret (v := 0) hx hb hr rfl (fun t ht hW => ⟨⟨0, (st11, sl12), rfl, ⟨hG, hL, Or.inr (rfl)⟩, mB.of ht hP⟩, hS.F ht⟩) hS.2.2 dX12_readEnd_14
set_option maxHeartbeats 4000000 in
set_option maxRecDepth 100000 in
theorem m_take (l : Launch) (dC : Nat → ClassId) (dI : Nat → Nat → Nat) (ar : Nat → Nat) (cy : Nat → ClassId) (sz : Nat) (hN : MN ar) (st : Nat → Nat → Int32) (sl : Nat → Nat → Int64) (hI : MI st) : Met l yX12_take wsX12_take ({ frames := 0, cells := 0, slots := 0, locals := 0 }) (va_Pc [.ref (ar 0)] (mPre dC dI ar cy sz st sl)) (va_Qi (fun (r : Int32) (x : MT) => MG [2, 3, 4, 5, 6, 7, 8, 9, 10, 11, 12, 13, 14, 15, 16, 17, 19, 20, 21, 22, 23] st x.1 ∧ LQ [7, 9] sl x.2 ∧ (∃ n : Nat, r = nI n ∧ n < 941 ∧ x.1 0 2 = 0)) (mB dC dI ar cy) (MA ar sz)) 0 0 (MA ar sz) := by
  refine Met.ofW (cc := cX12_take) (maxL := 2) (ret := (some .int)) (by decide) rfl ?_
  intro p e s m args below meth c s₁ B hml hv
  obtain ⟨rfl, hsz, hP, hK⟩ := hv
  have hx := B.exec
  have hb := B.bytes
  have hr := B.returns
  have hts := atoms_spec (ws := wsX12_take) B.pre
  have hown : s.vm.findClass RX12 = some m.cls := findClass_of_methodNamed B.named
  subst hsz
  have hS : va_S (MA ar s.heap.size) s.heap s.heap [] := va_S.rf
  have hG : MG [2, 3, 4, 5, 6, 7, 8, 9, 10, 11, 12, 13, 14, 15, 16, 17, 19, 20, 21, 22, 23] st st := MG.rf hI
  have hl := lv_entry ([.ref (ar 0)]) (n := 2) (Nat.le_of_ble_eq_true rfl)
  rw [lg_entry_eq]
  generalize (lg_sl ([.ref (ar 0)]) ++ List.replicate (2 - (lg_sl ([.ref (ar 0)])).length) Slot.unset).toArray = ls at hl ⊢
  have hl : lv_has ls 2 [(0, .ref (ar 0))] := hl
  clear hI
  have hL : LQ [7, 9] sl sl := LQ.rf
  refine lv_aload_n hx hb dX12_take_0 rfl (lv_at hl 0 rfl) ?_
  refine va_get (D := (dC, dI)) (ci := 11) (v := .int (st 0 2)) (C := RX12) (T := TX12) (N := 47) hx hb hts ii_X12_take hown hK hP 0 rfl rfl 2 (by decide) (hts _ mm_X12_take_1) (fun _ hh => hh) rfl dX12_take_1 ?_
  obtain ⟨n1, hn1, en1⟩ := hG.1.at (r := 0) (k := 2) (by decide : mr 0 2 = 941) (by decide)
  refine zz_top (v := nI n1) (by exact en1) ?_
  refine lv_istore_n (lv' := [(1, .int (nI n1)), (0, .ref (ar 0))]) hx hb dX12_take_4 rfl hl (by decide) rfl (fun ls hl => ?_)
  refine lv_aload_n hx hb dX12_take_5 rfl (lv_at hl 1 rfl) ?_
  refine lv_iconst (v := 0) hx hb dX12_take_6 (by decide) ?_
  refine va_put (D := (dC, dI)) (ci := 11) (v := .int 0) (ty := .int) (C := RX12) (T := TX12) (N := 47) hx hb hts ii_X12_take tyX12 tyX12_ok nmX12 hown hK hP (mD hN _ _ _ _) hS 0 rfl rfl 2 (by decide) (hts _ mm_X12_take_1) (fun _ hh => hh) rfl (by decide +kernel) rfl rfl (Nat.le_of_ble_eq_true rfl) dX12_take_7 (fun H locs hP _ hS => ?_)
  have hP : va_P (dC, dI) vwCl (mw ar cy (up2 st 0 2 0) sl) H := hP
  obtain ⟨st2, est2⟩ : ∃ y, y = up2 st 0 2 0 := ⟨_, rfl⟩
  have hG : MG [2, 3, 4, 5, 6, 7, 8, 9, 10, 11, 12, 13, 14, 15, 16, 17, 19, 20, 21, 22, 23] st st2 := by rw [est2]; exact hG.up (r0) (pn (by decide : pcl 0 2 = 1) (by decide))
  rw [← est2] at hP
  refine lv_iload_n hx hb dX12_take_10 rfl (lv_at hl 0 rfl) ?_
  exact W.iret (v := (nI n1)) hx hb hr (fun t ht hW => ⟨⟨(nI n1), (st2, sl), rfl, ⟨hG, hL, ⟨n1, rfl, by omega, by show st2 0 2 = 0; rw [est2, up2_same]⟩⟩, mB.of ht hP⟩, hS.F ht⟩) hS.2.2 dX12_take_11
set_option maxHeartbeats 4000000 in
set_option maxRecDepth 100000 in
theorem m_begin (l : Launch) (dC : Nat → ClassId) (dI : Nat → Nat → Nat) (ar : Nat → Nat) (cy : Nat → ClassId) (sz : Nat) (hN : MN ar) (st : Nat → Nat → Int32) (sl : Nat → Nat → Int64) (va : Int32) (hI : MI st) : Met l yX12_begin wsX12_begin ({ frames := 2, cells := 0, slots := 0, locals := 45 }) (va_Pc [.ref (ar 0), .int va] (mPre dC dI ar cy sz st sl)) (va_Qv (fun (x : MT) => MG [2, 6, 7, 8, 9, 10, 11, 12, 13, 14, 15, 16, 19, 20, 21, 22] st x.1 ∧ LQ [7, 9] sl x.2 ∧ (∃ g : Nat, ∃ b : Nat, TS x.1 g b ∧ x.1 0 2 = 0)) (mB dC dI ar cy) (MA ar sz)) 0 0 (MA ar sz) := by
  refine Met.ofW (cc := cX12_begin) (maxL := 2) (ret := none) (by decide) rfl ?_
  intro p e s m args below meth c s₁ B hml hv
  obtain ⟨rfl, hsz, hP, hK⟩ := hv
  have hx := B.exec
  have hb := B.bytes
  have hr := B.returns
  have hts := atoms_spec (ws := wsX12_begin) B.pre
  have hown : s.vm.findClass RX12 = some m.cls := findClass_of_methodNamed B.named
  subst hsz
  have hS : va_S (MA ar s.heap.size) s.heap s.heap [] := va_S.rf
  have hG : MG [2, 6, 7, 8, 9, 10, 11, 12, 13, 14, 15, 16, 19, 20, 21, 22] st st := MG.rf hI
  have hl := lv_entry ([.ref (ar 0), .int va]) (n := 2) (Nat.le_of_ble_eq_true rfl)
  rw [lg_entry_eq]
  generalize (lg_sl ([.ref (ar 0), .int va]) ++ List.replicate (2 - (lg_sl ([.ref (ar 0), .int va])).length) Slot.unset).toArray = ls at hl ⊢
  have hl : lv_has ls 2 [(0, .ref (ar 0)), (1, .int va)] := hl
  clear hI
  have hL : LQ [7, 9] sl sl := LQ.rf
  refine lv_aload_n hx hb dX12_begin_0 rfl (lv_at hl 0 rfl) ?_
  refine lv_iconst (v := 0) hx hb dX12_begin_1 (by decide) ?_
  refine va_put (D := (dC, dI)) (ci := 11) (v := .int 0) (ty := .int) (C := RX12) (T := TX12) (N := 47) hx hb hts ii_X12_begin tyX12 tyX12_ok nmX12 hown hK hP (mD hN _ _ _ _) hS 0 rfl rfl 0 (by decide) (hts _ mm_X12_begin_1) (fun _ hh => hh) rfl (by decide +kernel) rfl rfl (Nat.le_of_ble_eq_true rfl) dX12_begin_2 (fun H locs hP _ hS => ?_)
  have hP : va_P (dC, dI) vwCl (mw ar cy (up2 st 0 0 0) sl) H := hP
  obtain ⟨st1, est1⟩ : ∃ y, y = up2 st 0 0 0 := ⟨_, rfl⟩
  have hG : MG [2, 6, 7, 8, 9, 10, 11, 12, 13, 14, 15, 16, 19, 20, 21, 22] st st1 := by rw [est1]; exact hG.up (rz (by decide : mr 0 0 = 0)) (pn (by decide : pcl 0 0 = 0) (by decide))
  rw [← est1] at hP
  refine lv_aload_n hx hb dX12_begin_5 rfl (lv_at hl 0 rfl) ?_
  refine lv_aload_n hx hb dX12_begin_6 rfl (lv_at hl 0 rfl) ?_
  refine va_calli (va_runV (As := []) (rest := [.ref (ar 0)]) ⟨hx, hb, hml, hown, hts⟩ (m_take l dC dI ar cy _ hN st1 sl  hG.1) (cwV 0 hts gX12_begin_X12_take rfl rfl rfl (by decide +kernel) ⟨Nat.le_of_ble_eq_true rfl, Nat.le_of_ble_eq_true rfl⟩) ⟨fun a U g mk q => ⟨q.1, mPre.blind q.2⟩, va_recv hK hP (ci := 11) (q0 := 0) rfl rfl, fun U hU hW => ⟨rfl, mPre.of hP hK hU hW⟩⟩ rfl rfl hl.1 rfl (lv_room (Nat.le_of_ble_eq_true rfl)) dX12_begin_7 ⟨Nat.le_of_ble_eq_true rfl, Nat.le_of_ble_eq_true rfl⟩) hS (fun q _ h => MA.le hS.1 q h) (MA.le hS.1) (fun r2 x t H locs ht hvm hw hB _ _ hS => ?_)
  have hP := mB.at ht hB
  clear hB ht hvm
  obtain ⟨st3, sl4⟩ := x
  obtain ⟨hG2, hL2, hw⟩ := hw
  have hL : LQ [7, 9] sl sl4 := hL.tr hL2 (by decide)
  clear hL2
  dsimp only at hw
  have hP : va_P (dC, dI) vwCl (mw ar cy st3 sl4) _ := hP
  have hG : MG [2, 6, 7, 8, 9, 10, 11, 12, 13, 14, 15, 16, 19, 20, 21, 22] st st3 := hG.tr hG2 (by decide)
  have hGst3 : MG [2, 3, 4, 5, 6, 7, 8, 9, 10, 11, 12, 13, 14, 15, 16, 17, 19, 20, 21, 22, 23] st1 st3 := hG2
  clear hG2
  obtain ⟨n5, rfl, hf6, hf7⟩ := hw
  refine va_put (D := (dC, dI)) (ci := 11) (v := .int (nI n5)) (ty := .int) (C := RX12) (T := TX12) (N := 47) hx hb hts ii_X12_begin tyX12 tyX12_ok nmX12 hown hK hP (mD hN _ _ _ _) hS 0 rfl rfl 3 (by decide) (hts _ mm_X12_begin_2) (fun _ hh => hh) rfl (by decide +kernel) rfl rfl (Nat.le_of_ble_eq_true rfl) dX12_begin_10 (fun H locs hP _ hS => ?_)
  have hP : va_P (dC, dI) vwCl (mw ar cy (up2 st3 0 3 (nI n5)) sl4) H := hP
  obtain ⟨st8, est8⟩ : ∃ y, y = up2 st3 0 3 (nI n5) := ⟨_, rfl⟩
  have hG : MG [2, 6, 7, 8, 9, 10, 11, 12, 13, 14, 15, 16, 19, 20, 21, 22] st st8 := by rw [est8]; exact hG.up (rn (n := n5) (by decide : mr 0 3 = 941) (by omega)) (pn (by decide : pcl 0 3 = 3) (by decide))
  rw [← est8] at hP
  refine lv_aload_n hx hb dX12_begin_13 rfl (lv_at hl 0 rfl) ?_
  refine lv_iload_n hx hb dX12_begin_14 rfl (lv_at hl 1 rfl) ?_
  refine va_put (D := (dC, dI)) (ci := 11) (v := .int va) (ty := .int) (C := RX12) (T := TX12) (N := 47) hx hb hts ii_X12_begin tyX12 tyX12_ok nmX12 hown hK hP (mD hN _ _ _ _) hS 0 rfl rfl 4 (by decide) (hts _ mm_X12_begin_3) (fun _ hh => hh) rfl (by decide +kernel) rfl rfl (Nat.le_of_ble_eq_true rfl) dX12_begin_15 (fun H locs hP _ hS => ?_)
  have hP : va_P (dC, dI) vwCl (mw ar cy (up2 st8 0 4 va) sl4) H := hP
  obtain ⟨st9, est9⟩ : ∃ y, y = up2 st8 0 4 va := ⟨_, rfl⟩
  have hG : MG [2, 6, 7, 8, 9, 10, 11, 12, 13, 14, 15, 16, 19, 20, 21, 22] st st9 := by rw [est9]; exact hG.up (rz (by decide : mr 0 4 = 0)) (pn (by decide : pcl 0 4 = 0) (by decide))
  rw [← est9] at hP
  refine lv_aload_n hx hb dX12_begin_18 rfl (lv_at hl 0 rfl) ?_
  refine lv_iconst (v := 0) hx hb dX12_begin_19 (by decide) ?_
  refine va_put (D := (dC, dI)) (ci := 11) (v := .int 0) (ty := .int) (C := RX12) (T := TX12) (N := 47) hx hb hts ii_X12_begin tyX12 tyX12_ok nmX12 hown hK hP (mD hN _ _ _ _) hS 0 rfl rfl 10 (by decide) (hts _ mm_X12_begin_4) (fun _ hh => hh) rfl (by decide +kernel) rfl rfl (Nat.le_of_ble_eq_true rfl) dX12_begin_20 (fun H locs hP _ hS => ?_)
  have hP : va_P (dC, dI) vwCl (mw ar cy (up2 st9 0 10 0) sl4) H := hP
  obtain ⟨st10, est10⟩ : ∃ y, y = up2 st9 0 10 0 := ⟨_, rfl⟩
  have hG : MG [2, 6, 7, 8, 9, 10, 11, 12, 13, 14, 15, 16, 19, 20, 21, 22] st st10 := by rw [est10]; exact hG.up (rz (by decide : mr 0 10 = 0)) (pn (by decide : pcl 0 10 = 23) (by decide))
  rw [← est10] at hP
  refine lv_aload_n hx hb dX12_begin_23 rfl (lv_at hl 0 rfl) ?_
  refine lv_iconst (v := 0) hx hb dX12_begin_24 (by decide) ?_
  refine va_put (D := (dC, dI)) (ci := 11) (v := .int 0) (ty := .int) (C := RX12) (T := TX12) (N := 47) hx hb hts ii_X12_begin tyX12 tyX12_ok nmX12 hown hK hP (mD hN _ _ _ _) hS 0 rfl rfl 5 (by decide) (hts _ mm_X12_begin_5) (fun _ hh => hh) rfl (by decide +kernel) rfl rfl (Nat.le_of_ble_eq_true rfl) dX12_begin_25 (fun H locs hP _ hS => ?_)
  have hP : va_P (dC, dI) vwCl (mw ar cy (up2 st10 0 5 0) sl4) H := hP
  obtain ⟨st11, est11⟩ : ∃ y, y = up2 st10 0 5 0 := ⟨_, rfl⟩
  have hG : MG [2, 6, 7, 8, 9, 10, 11, 12, 13, 14, 15, 16, 19, 20, 21, 22] st st11 := by rw [est11]; exact hG.up (r0) (pn (by decide : pcl 0 5 = 4) (by decide))
  rw [← est11] at hP
  refine lv_aload_n hx hb dX12_begin_28 rfl (lv_at hl 0 rfl) ?_
  refine va_callv (va_runV (As := []) (rest := []) ⟨hx, hb, hml, hown, hts⟩ (m_go l dC dI ar cy _ hN st11 sl4 0 n5  hG.1 ((⟨by rw [est11, up2_same]; rfl, by rw [est11, up2_ne (r := 0) (k := 5) (a := 0) (j := 3) _ _ (by omega), est10, up2_ne (r := 0) (k := 10) (a := 0) (j := 3) _ _ (by omega), est9, up2_ne (r := 0) (k := 4) (a := 0) (j := 3) _ _ (by omega), est8, up2_same], by omega, by omega⟩ : TS st11 0 n5))) (cwV 0 hts gX12_begin_X12_go rfl rfl rfl (by decide +kernel) ⟨Nat.le_of_ble_eq_true rfl, Nat.le_of_ble_eq_true rfl⟩) ⟨fun a U g mk q => ⟨q.1, mPre.blind q.2⟩, va_recv hK hP (ci := 11) (q0 := 0) rfl rfl, fun U hU hW => ⟨rfl, mPre.of hP hK hU hW⟩⟩ rfl rfl hl.1 rfl (lv_room (Nat.le_of_ble_eq_true rfl)) dX12_begin_29 ⟨Nat.le_of_ble_eq_true rfl, Nat.le_of_ble_eq_true rfl⟩) hS (fun q _ h => MA.le hS.1 q h) (MA.le hS.1) (fun x t H locs ht hvm hw hB _ _ hS => ?_)
  have hP := mB.at ht hB
  clear hB ht hvm
  obtain ⟨st13, sl14⟩ := x
  obtain ⟨hG2, hL2, hw⟩ := hw
  have hL : LQ [7, 9] sl sl14 := hL.tr hL2 (by decide)
  clear hL2
  dsimp only at hw
  have hP : va_P (dC, dI) vwCl (mw ar cy st13 sl14) _ := hP
  have hG : MG [2, 6, 7, 8, 9, 10, 11, 12, 13, 14, 15, 16, 19, 20, 21, 22] st st13 := hG.tr hG2 (by decide)
  have hGst13 : MG [1, 2, 3, 6, 7, 8, 9, 10, 11, 12, 13, 14, 15, 16, 19, 20, 21, 22, 23] st11 st13 := hG2
  clear hG2
  obtain ⟨n15, hf16, hf17, hf18⟩ := hw
  have hf16c := hf16.2.2.1
  have hf16d := hf16.2.2.2
  exact W.vret hx hb hr (fun t ht hW => ⟨⟨(st13, sl14), rfl, ⟨hG, hL, ⟨n15, n5, (show TS st13 n15 n5 from ⟨by rw [hf16.1], by rw [hf16.2.1], by omega, by omega⟩), by show st13 0 2 = 0; rw [hGst13.2 0 2 (by decide), est11, up2_ne (r := 0) (k := 5) (a := 0) (j := 2) _ _ (by omega), est10, up2_ne (r := 0) (k := 10) (a := 0) (j := 2) _ _ (by omega), est9, up2_ne (r := 0) (k := 4) (a := 0) (j := 2) _ _ (by omega), est8, up2_ne (r := 0) (k := 3) (a := 0) (j := 2) _ _ (by omega), hf7]⟩⟩, mB.of ht hP⟩, hS.F ht⟩) hS.2.2 dX12_begin_32
set_option maxHeartbeats 4000000 in
set_option maxRecDepth 100000 in
theorem m_findIn7 (l : Launch) (dC : Nat → ClassId) (dI : Nat → Nat → Nat) (ar : Nat → Nat) (cy : Nat → ClassId) (sz : Nat) (hN : MN ar) (st : Nat → Nat → Int32) (sl : Nat → Nat → Int64) (va : Nat) (vb : Nat) (vw : Int64) (hva : va < 14) (hvb : vb < 9) (hI : MI st) (hab : va + vb ≤ 19) : Met l yX12_findIn wsX12_findIn ({ frames := 0, cells := 0, slots := 0, locals := 0 }) (va_Pc [.ref (ar 7), .int (nI va), .int (nI vb), .long vw] (mPre dC dI ar cy sz st sl)) (va_Qi (fun (r : Int32) (x : MT) => x = (st, sl) ∧ ((r = (-1)) ∨ (∃ n : Nat, r = nI n ∧ n < vb))) (mB dC dI ar cy) (MA ar sz)) 0 0 (MA ar sz) := by
  refine Met.ofW (cc := cX12_findIn) (maxL := 6) (ret := (some .int)) (by decide) rfl ?_
  intro p e s m args below meth c s₁ B hml hv
  obtain ⟨rfl, hsz, hP, hK⟩ := hv
  have hx := B.exec
  have hb := B.bytes
  have hr := B.returns
  have hts := atoms_spec (ws := wsX12_findIn) B.pre
  have hown : s.vm.findClass RX12 = some m.cls := findClass_of_methodNamed B.named
  subst hsz
  have hS : va_S (MA ar s.heap.size) s.heap s.heap [] := va_S.rf
  have hG : MG [1, 2, 3, 4, 5, 6, 7, 8, 9, 10, 11, 12, 13, 14, 15, 16, 17, 19, 20, 21, 22, 23] st st := MG.rf hI
  have hl := lv_entry ([.ref (ar 7), .int (nI va), .int (nI vb), .long vw]) (n := 6) (Nat.le_of_ble_eq_true rfl)
  rw [lg_entry_eq]
  generalize (lg_sl ([.ref (ar 7), .int (nI va), .int (nI vb), .long vw]) ++ List.replicate (6 - (lg_sl ([.ref (ar 7), .int (nI va), .int (nI vb), .long vw])).length) Slot.unset).toArray = ls at hl ⊢
  have hl : lv_has ls 6 [(0, .ref (ar 7)), (1, .int (nI va)), (2, .int (nI vb)), (3, .long vw)] := hl
  clear hI
  refine lv_iconst (v := 0) hx hb dX12_findIn_0 (by decide) ?_
  refine lv_istore (lv' := [(5, .int 0), (0, .ref (ar 7)), (1, .int (nI va)), (2, .int (nI vb)), (3, .long vw)]) hx hb dX12_findIn_1 hl (by decide) rfl (fun ls hl => ?_)
  refine zz_wf (fun n stk H locs ls => ∃ k1 : Nat, n = 10 - k1 ∧ 0 ≤ k1 ∧ k1 < 10 ∧ va_P (dC, dI) vwCl (mw ar cy st sl) H ∧ va_S (MA ar s.heap.size) s.heap H locs ∧ lv_has ls 6 [(5, .int (nI k1)), (0, .ref (ar 7)), (1, .int (nI va)), (2, .int (nI vb)), (3, .long vw)] ∧ stk = []) ?_ (10 - 0) _ _ _ _ ⟨0, rfl, by omega, by omega, hP, hS, lv_sub hl [0, 1, 2, 3, 4] rfl, rfl⟩
  rintro nn stk H locs ls ⟨k1, hm3, hv2_0, hv3_1, hP, hS, hl, rfl⟩ ih4
  refine lv_iload hx hb dX12_findIn_3 (lv_at hl 0 rfl) ?_
  refine lv_iload_n hx hb dX12_findIn_5 rfl (lv_at hl 3 rfl) ?_
  refine lv_icmp_ge (tgt := 29) hx hb dX12_findIn_6 (by decide) (fun c1 => ?_) (fun c1 => ?_)
  · have c1 : vb ≤ k1 := (nI_leI (a := vb) (b := k1) (by omega) (by omega)).mp c1
    refine lv_iconst (v := (-1)) hx hb dX12_findIn_29 (by decide) ?_
    exact W.iret (v := (-1)) hx hb hr (fun t ht hW => ⟨⟨(-1), (st, sl), rfl, ⟨rfl, Or.inl (rfl)⟩, mB.of ht hP⟩, hS.F ht⟩) hS.2.2 dX12_findIn_30
  · have c1 : ¬ vb ≤ k1 := fun hh => c1 ((nI_leI (a := vb) (b := k1) (by omega) (by omega)).mpr hh)
    refine lv_aload_n hx hb dX12_findIn_9 rfl (lv_at hl 1 rfl) ?_
    refine lv_iload_n hx hb dX12_findIn_10 rfl (lv_at hl 2 rfl) ?_
    refine lv_iload hx hb dX12_findIn_11 (lv_at hl 0 rfl) ?_
    refine lv_iadd hx hb dX12_findIn_13 ?_
    refine zz_top (v := nI (va + k1)) (nI_add va k1) ?_
    refine va_lald hx hb hK hP 7 6 rfl rfl (i := (nI (va + k1))) (vp_in_nI (by omega) (by decide)) dX12_findIn_14 ?_
    refine lv_topl (fun z5 ez5 => ?_)
    clear ez5
    refine lv_lload_n hx hb dX12_findIn_15 rfl (lv_at hl 4 rfl) ?_
    refine W.lcmp hx hb dX12_findIn_16 ?_
    refine lv_topi (fun z6 ez6 => ?_)
    refine lv_if_ne (tgt := 23) hx hb dX12_findIn_17 (by decide) (fun c2 => ?_) (fun c2 => ?_)
    · refine lv_iinc (v := (nI (k1 + 1))) (lv' := [(5, .int (nI (k1 + 1))), (0, .ref (ar 7)), (1, .int (nI va)), (2, .int (nI vb)), (3, .long vw)]) hx hb dX12_findIn_23 hl (k := 0) rfl (nI_add k1 1) (by decide) rfl (fun ls hl => ?_)
      refine lv_goto (tgt := 3) hx hb dX12_findIn_26 (by decide) ?_
      exact ih4 (10 - (k1 + 1)) _ _ _ _ (by omega) ⟨(k1 + 1), rfl, by omega, by omega, hP, hS, lv_sub hl [0, 1, 2, 3, 4] rfl, rfl⟩
    · refine lv_iload hx hb dX12_findIn_20 (lv_at hl 0 rfl) ?_
      exact W.iret (v := (nI k1)) hx hb hr (fun t ht hW => ⟨⟨(nI k1), (st, sl), rfl, ⟨rfl, Or.inr (⟨k1, rfl, by omega⟩)⟩, mB.of ht hP⟩, hS.F ht⟩) hS.2.2 dX12_findIn_22
set_option maxHeartbeats 4000000 in
set_option maxRecDepth 100000 in
theorem m_findIn8 (l : Launch) (dC : Nat → ClassId) (dI : Nat → Nat → Nat) (ar : Nat → Nat) (cy : Nat → ClassId) (sz : Nat) (hN : MN ar) (st : Nat → Nat → Int32) (sl : Nat → Nat → Int64) (va : Nat) (vb : Nat) (vw : Int64) (hva : va < 14) (hvb : vb < 9) (hI : MI st) (hab : va + vb ≤ 19) : Met l yX12_findIn wsX12_findIn ({ frames := 0, cells := 0, slots := 0, locals := 0 }) (va_Pc [.ref (ar 8), .int (nI va), .int (nI vb), .long vw] (mPre dC dI ar cy sz st sl)) (va_Qi (fun (r : Int32) (x : MT) => x = (st, sl) ∧ ((r = (-1)) ∨ (∃ n : Nat, r = nI n ∧ n < vb))) (mB dC dI ar cy) (MA ar sz)) 0 0 (MA ar sz) := by
  refine Met.ofW (cc := cX12_findIn) (maxL := 6) (ret := (some .int)) (by decide) rfl ?_
  intro p e s m args below meth c s₁ B hml hv
  obtain ⟨rfl, hsz, hP, hK⟩ := hv
  have hx := B.exec
  have hb := B.bytes
  have hr := B.returns
  have hts := atoms_spec (ws := wsX12_findIn) B.pre
  have hown : s.vm.findClass RX12 = some m.cls := findClass_of_methodNamed B.named
  subst hsz
  have hS : va_S (MA ar s.heap.size) s.heap s.heap [] := va_S.rf
  have hG : MG [1, 2, 3, 4, 5, 6, 7, 8, 9, 10, 11, 12, 13, 14, 15, 16, 17, 19, 20, 21, 22, 23] st st := MG.rf hI
  have hl := lv_entry ([.ref (ar 8), .int (nI va), .int (nI vb), .long vw]) (n := 6) (Nat.le_of_ble_eq_true rfl)
  rw [lg_entry_eq]
  generalize (lg_sl ([.ref (ar 8), .int (nI va), .int (nI vb), .long vw]) ++ List.replicate (6 - (lg_sl ([.ref (ar 8), .int (nI va), .int (nI vb), .long vw])).length) Slot.unset).toArray = ls at hl ⊢
  have hl : lv_has ls 6 [(0, .ref (ar 8)), (1, .int (nI va)), (2, .int (nI vb)), (3, .long vw)] := hl
  clear hI
  refine lv_iconst (v := 0) hx hb dX12_findIn_0 (by decide) ?_
  refine lv_istore (lv' := [(5, .int 0), (0, .ref (ar 8)), (1, .int (nI va)), (2, .int (nI vb)), (3, .long vw)]) hx hb dX12_findIn_1 hl (by decide) rfl (fun ls hl => ?_)
  refine zz_wf (fun n stk H locs ls => ∃ k1 : Nat, n = 10 - k1 ∧ 0 ≤ k1 ∧ k1 < 10 ∧ va_P (dC, dI) vwCl (mw ar cy st sl) H ∧ va_S (MA ar s.heap.size) s.heap H locs ∧ lv_has ls 6 [(5, .int (nI k1)), (0, .ref (ar 8)), (1, .int (nI va)), (2, .int (nI vb)), (3, .long vw)] ∧ stk = []) ?_ (10 - 0) _ _ _ _ ⟨0, rfl, by omega, by omega, hP, hS, lv_sub hl [0, 1, 2, 3, 4] rfl, rfl⟩
  rintro nn stk H locs ls ⟨k1, hm3, hv2_0, hv3_1, hP, hS, hl, rfl⟩ ih4
  refine lv_iload hx hb dX12_findIn_3 (lv_at hl 0 rfl) ?_
  refine lv_iload_n hx hb dX12_findIn_5 rfl (lv_at hl 3 rfl) ?_
  refine lv_icmp_ge (tgt := 29) hx hb dX12_findIn_6 (by decide) (fun c1 => ?_) (fun c1 => ?_)
  · have c1 : vb ≤ k1 := (nI_leI (a := vb) (b := k1) (by omega) (by omega)).mp c1
    refine lv_iconst (v := (-1)) hx hb dX12_findIn_29 (by decide) ?_
    exact W.iret (v := (-1)) hx hb hr (fun t ht hW => ⟨⟨(-1), (st, sl), rfl, ⟨rfl, Or.inl (rfl)⟩, mB.of ht hP⟩, hS.F ht⟩) hS.2.2 dX12_findIn_30
  · have c1 : ¬ vb ≤ k1 := fun hh => c1 ((nI_leI (a := vb) (b := k1) (by omega) (by omega)).mpr hh)
    refine lv_aload_n hx hb dX12_findIn_9 rfl (lv_at hl 1 rfl) ?_
    refine lv_iload_n hx hb dX12_findIn_10 rfl (lv_at hl 2 rfl) ?_
    refine lv_iload hx hb dX12_findIn_11 (lv_at hl 0 rfl) ?_
    refine lv_iadd hx hb dX12_findIn_13 ?_
    refine zz_top (v := nI (va + k1)) (nI_add va k1) ?_
    refine va_lald hx hb hK hP 8 7 rfl rfl (i := (nI (va + k1))) (vp_in_nI (by omega) (by decide)) dX12_findIn_14 ?_
    refine lv_topl (fun z5 ez5 => ?_)
    clear ez5
    refine lv_lload_n hx hb dX12_findIn_15 rfl (lv_at hl 4 rfl) ?_
    refine W.lcmp hx hb dX12_findIn_16 ?_
    refine lv_topi (fun z6 ez6 => ?_)
    refine lv_if_ne (tgt := 23) hx hb dX12_findIn_17 (by decide) (fun c2 => ?_) (fun c2 => ?_)
    · refine lv_iinc (v := (nI (k1 + 1))) (lv' := [(5, .int (nI (k1 + 1))), (0, .ref (ar 8)), (1, .int (nI va)), (2, .int (nI vb)), (3, .long vw)]) hx hb dX12_findIn_23 hl (k := 0) rfl (nI_add k1 1) (by decide) rfl (fun ls hl => ?_)
      refine lv_goto (tgt := 3) hx hb dX12_findIn_26 (by decide) ?_
      exact ih4 (10 - (k1 + 1)) _ _ _ _ (by omega) ⟨(k1 + 1), rfl, by omega, by omega, hP, hS, lv_sub hl [0, 1, 2, 3, 4] rfl, rfl⟩
    · refine lv_iload hx hb dX12_findIn_20 (lv_at hl 0 rfl) ?_
      exact W.iret (v := (nI k1)) hx hb hr (fun t ht hW => ⟨⟨(nI k1), (st, sl), rfl, ⟨rfl, Or.inr (⟨k1, rfl, by omega⟩)⟩, mB.of ht hP⟩, hS.F ht⟩) hS.2.2 dX12_findIn_22
set_option maxHeartbeats 4000000 in
set_option maxRecDepth 100000 in
theorem m_readNew (l : Launch) (dC : Nat → ClassId) (dI : Nat → Nat → Nat) (ar : Nat → Nat) (cy : Nat → ClassId) (sz : Nat) (hN : MN ar) (st : Nat → Nat → Int32) (sl : Nat → Nat → Int64) (va : Nat) (ga gb : Nat) (hva : va < 19) (hI : MI st) (hT : TS st ga gb) : Met l yX12_readNew wsX12_readNew ({ frames := 3, cells := 0, slots := 0, locals := 69 }) (va_Pc [.ref (ar 0), .int (nI va)] (mPre dC dI ar cy sz st sl)) (va_Qi (fun (r : Int32) (x : MT) => MG [1, 2, 3, 6, 7, 8, 9, 10, 11, 12, 13, 14, 15, 19, 20, 21, 22] st x.1 ∧ LQ [7, 9] sl x.2 ∧ ((∃ g : Nat, r = 1 ∧ TS x.1 g gb ∧ ga ≤ g ∧ (x.1 0 7 = 4 → ga < g)) ∨ (r = 0))) (mB dC dI ar cy) (MA ar sz)) 0 0 (MA ar sz) := by
  refine Met.ofW (cc := cX12_readNew) (maxL := 2) (ret := (some .boolean)) (by decide) rfl ?_
  intro p e s m args below meth c s₁ B hml hv
  obtain ⟨rfl, hsz, hP, hK⟩ := hv
  have hx := B.exec
  have hb := B.bytes
  have hr := B.returns
  have hts := atoms_spec (ws := wsX12_readNew) B.pre
  have hown : s.vm.findClass RX12 = some m.cls := findClass_of_methodNamed B.named
  subst hsz
  have hS : va_S (MA ar s.heap.size) s.heap s.heap [] := va_S.rf
  have hG : MG [1, 2, 3, 6, 7, 8, 9, 10, 11, 12, 13, 14, 15, 19, 20, 21, 22] st st := MG.rf hI
  have hl := lv_entry ([.ref (ar 0), .int (nI va)]) (n := 2) (Nat.le_of_ble_eq_true rfl)
  rw [lg_entry_eq]
  generalize (lg_sl ([.ref (ar 0), .int (nI va)]) ++ List.replicate (2 - (lg_sl ([.ref (ar 0), .int (nI va)])).length) Slot.unset).toArray = ls at hl ⊢
  have hl : lv_has ls 2 [(0, .ref (ar 0)), (1, .int (nI va))] := hl
  clear hI
  have hL : LQ [7, 9] sl sl := LQ.rf
  have hTc := hT.2.2.1
  have hTd := hT.2.2.2
  have hga : ga ≤ ga := Nat.le_refl ga
  refine lv_aload_n hx hb dX12_readNew_0 rfl (lv_at hl 0 rfl) ?_
  refine va_calli (va_runV (As := []) (rest := []) ⟨hx, hb, hml, hown, hts⟩ (m_isName l dC dI ar cy _ hN st sl  hG.1) (cwV 0 hts gX12_readNew_X12_isName rfl rfl rfl (by decide +kernel) ⟨Nat.le_of_ble_eq_true rfl, Nat.le_of_ble_eq_true rfl⟩) ⟨fun a U g mk q => ⟨q.1, mPre.blind q.2⟩, va_recv hK hP (ci := 11) (q0 := 0) rfl rfl, fun U hU hW => ⟨rfl, mPre.of hP hK hU hW⟩⟩ rfl rfl hl.1 rfl (lv_room (Nat.le_of_ble_eq_true rfl)) dX12_readNew_1 ⟨Nat.le_of_ble_eq_true rfl, Nat.le_of_ble_eq_true rfl⟩) hS (fun q _ h => MA.le hS.1 q h) (MA.le hS.1) (fun r1 x t H locs ht hvm hw hB _ _ hS => ?_)
  have hP := mB.at ht hB
  clear hB ht hvm
  obtain ⟨rfl, hw⟩ := hw
  have hP : va_P (dC, dI) vwCl (mw ar cy st sl) _ := hP
  rcases hw with rfl | rfl
  · refine lv_if_ne (tgt := 13) hx hb dX12_readNew_4 (by decide) (fun _ => ?_) (fun cc => absurd cc (by decide))
    refine lv_aload_n hx hb dX12_readNew_13 rfl (lv_at hl 0 rfl) ?_
    refine va_get (D := (dC, dI)) (ci := 11) (v := .ref (ar 8)) (C := RX12) (T := TX12) (N := 47) hx hb hts ii_X12_readNew hown hK hP 0 rfl rfl 20 (by decide) (hts _ mm_X12_readNew_1) (fun _ hh => hh) rfl dX12_readNew_14 ?_
    refine lv_iconst (v := 0) hx hb dX12_readNew_17 (by decide) ?_
    refine lv_aload_n hx hb dX12_readNew_18 rfl (lv_at hl 0 rfl) ?_
    refine va_get (D := (dC, dI)) (ci := 11) (v := .ref (ar 3)) (C := RX12) (T := TX12) (N := 47) hx hb hts ii_X12_readNew hown hK hP 0 rfl rfl 15 (by decide) (hts _ mm_X12_readNew_2) (fun _ hh => hh) rfl dX12_readNew_19 ?_
    refine lv_iconst (v := 0) hx hb dX12_readNew_22 (by decide) ?_
    refine va_iald hx hb hK hP 3 2 rfl rfl (i := 0) (zz_in (by decide)) dX12_readNew_23 ?_
    obtain ⟨n2, hn2, en2⟩ := hG.1.at (r := 3) (k := 0) (by decide : mr 3 0 = 6) (by decide)
    refine zz_top (v := nI n2) (by exact en2) ?_
    refine lv_aload_n hx hb dX12_readNew_24 rfl (lv_at hl 0 rfl) ?_
    refine va_get (D := (dC, dI)) (ci := 11) (v := .long (sl 0 12)) (C := RX12) (T := TX12) (N := 47) hx hb hts ii_X12_readNew hown hK hP 0 rfl rfl 12 (by decide) (hts _ mm_X12_readNew_3) (fun _ hh => hh) rfl dX12_readNew_25 ?_
    refine lv_topl (fun z3 ez3 => ?_)
    clear ez3
    refine va_calli (va_runS (As := [.ref (ar 8), .int 0, .int (nI n2), .long z3]) (rest := []) ⟨hx, hb, hml, hown, hts⟩ (m_findIn8 l dC dI ar cy _ hN st sl 0 n2 z3 (by omega) (by omega) hG.1 (by omega)) (va_cwS 4 hts gX12_readNew_X12_findIn rfl rfl rfl (by decide +kernel) ⟨Nat.le_of_ble_eq_true rfl, Nat.le_of_ble_eq_true rfl⟩) ⟨fun a U g mk q => ⟨q.1, mPre.blind q.2⟩, fun U hU hW => ⟨rfl, mPre.of hP hK hU hW⟩⟩ rfl rfl hl.1 rfl (lv_room (Nat.le_of_ble_eq_true rfl)) dX12_readNew_28 ⟨Nat.le_of_ble_eq_true rfl, Nat.le_of_ble_eq_true rfl⟩) hS (fun q _ h => MA.le hS.1 q h) (MA.le hS.1) (fun r4 x t H locs ht hvm hw hB _ _ hS => ?_)
    have hP := mB.at ht hB
    clear hB ht hvm
    obtain ⟨rfl, hw⟩ := hw
    have hP : va_P (dC, dI) vwCl (mw ar cy st sl) _ := hP
    rcases hw with rfl | ⟨n5, rfl, hf6⟩
    · refine lv_iconst (v := (-1)) hx hb dX12_readNew_31 (by decide) ?_
      refine lv_icmp_ne (tgt := 80) hx hb dX12_readNew_32 (by decide) (fun cc => absurd (by decide) cc) (fun _ => ?_)
      refine lv_aload_n hx hb dX12_readNew_35 rfl (lv_at hl 0 rfl) ?_
      refine va_get (D := (dC, dI)) (ci := 11) (v := .ref (ar 8)) (C := RX12) (T := TX12) (N := 47) hx hb hts ii_X12_readNew hown hK hP 0 rfl rfl 20 (by decide) (hts _ mm_X12_readNew_1) (fun _ hh => hh) rfl dX12_readNew_36 ?_
      refine lv_iconst (v := 5) hx hb dX12_readNew_39 (by decide) ?_
      refine lv_aload_n hx hb dX12_readNew_40 rfl (lv_at hl 0 rfl) ?_
      refine va_get (D := (dC, dI)) (ci := 11) (v := .ref (ar 3)) (C := RX12) (T := TX12) (N := 47) hx hb hts ii_X12_readNew hown hK hP 0 rfl rfl 15 (by decide) (hts _ mm_X12_readNew_2) (fun _ hh => hh) rfl dX12_readNew_41 ?_
      refine lv_iconst (v := 1) hx hb dX12_readNew_44 (by decide) ?_
      refine va_iald hx hb hK hP 3 2 rfl rfl (i := 1) (zz_in (by decide)) dX12_readNew_45 ?_
      obtain ⟨n7, hn7, en7⟩ := hG.1.at (r := 3) (k := 1) (by decide : mr 3 1 = 9) (by decide)
      refine zz_top (v := nI n7) (by exact en7) ?_
      refine lv_aload_n hx hb dX12_readNew_46 rfl (lv_at hl 0 rfl) ?_
      refine va_get (D := (dC, dI)) (ci := 11) (v := .long (sl 0 12)) (C := RX12) (T := TX12) (N := 47) hx hb hts ii_X12_readNew hown hK hP 0 rfl rfl 12 (by decide) (hts _ mm_X12_readNew_3) (fun _ hh => hh) rfl dX12_readNew_47 ?_
      refine lv_topl (fun z8 ez8 => ?_)
      clear ez8
      refine va_calli (va_runS (As := [.ref (ar 8), .int 5, .int (nI n7), .long z8]) (rest := []) ⟨hx, hb, hml, hown, hts⟩ (m_findIn8 l dC dI ar cy _ hN st sl 5 n7 z8 (by omega) (by omega) hG.1 (by omega)) (va_cwS 4 hts gX12_readNew_X12_findIn rfl rfl rfl (by decide +kernel) ⟨Nat.le_of_ble_eq_true rfl, Nat.le_of_ble_eq_true rfl⟩) ⟨fun a U g mk q => ⟨q.1, mPre.blind q.2⟩, fun U hU hW => ⟨rfl, mPre.of hP hK hU hW⟩⟩ rfl rfl hl.1 rfl (lv_room (Nat.le_of_ble_eq_true rfl)) dX12_readNew_50 ⟨Nat.le_of_ble_eq_true rfl, Nat.le_of_ble_eq_true rfl⟩) hS (fun q _ h => MA.le hS.1 q h) (MA.le hS.1) (fun r9 x t H locs ht hvm hw hB _ _ hS => ?_)
      have hP := mB.at ht hB
      clear hB ht hvm
      obtain ⟨rfl, hw⟩ := hw
      have hP : va_P (dC, dI) vwCl (mw ar cy st sl) _ := hP
      rcases hw with rfl | ⟨n10, rfl, hf11⟩
      · refine lv_iconst (v := (-1)) hx hb dX12_readNew_53 (by decide) ?_
        refine lv_icmp_ne (tgt := 80) hx hb dX12_readNew_54 (by decide) (fun cc => absurd (by decide) cc) (fun _ => ?_)
        refine lv_aload_n hx hb dX12_readNew_57 rfl (lv_at hl 0 rfl) ?_
        refine va_get (D := (dC, dI)) (ci := 11) (v := .ref (ar 8)) (C := RX12) (T := TX12) (N := 47) hx hb hts ii_X12_readNew hown hK hP 0 rfl rfl 20 (by decide) (hts _ mm_X12_readNew_1) (fun _ hh => hh) rfl dX12_readNew_58 ?_
        refine lv_bipush (v := 13) hx hb dX12_readNew_61 (by decide) ?_
        refine lv_aload_n hx hb dX12_readNew_63 rfl (lv_at hl 0 rfl) ?_
        refine va_get (D := (dC, dI)) (ci := 11) (v := .ref (ar 3)) (C := RX12) (T := TX12) (N := 47) hx hb hts ii_X12_readNew hown hK hP 0 rfl rfl 15 (by decide) (hts _ mm_X12_readNew_2) (fun _ hh => hh) rfl dX12_readNew_64 ?_
        refine lv_iconst (v := 2) hx hb dX12_readNew_67 (by decide) ?_
        refine va_iald hx hb hK hP 3 2 rfl rfl (i := 2) (zz_in (by decide)) dX12_readNew_68 ?_
        obtain ⟨n12, hn12, en12⟩ := hG.1.at (r := 3) (k := 2) (by decide : mr 3 2 = 7) (by decide)
        refine zz_top (v := nI n12) (by exact en12) ?_
        refine lv_aload_n hx hb dX12_readNew_69 rfl (lv_at hl 0 rfl) ?_
        refine va_get (D := (dC, dI)) (ci := 11) (v := .long (sl 0 12)) (C := RX12) (T := TX12) (N := 47) hx hb hts ii_X12_readNew hown hK hP 0 rfl rfl 12 (by decide) (hts _ mm_X12_readNew_3) (fun _ hh => hh) rfl dX12_readNew_70 ?_
        refine lv_topl (fun z13 ez13 => ?_)
        clear ez13
        refine va_calli (va_runS (As := [.ref (ar 8), .int 13, .int (nI n12), .long z13]) (rest := []) ⟨hx, hb, hml, hown, hts⟩ (m_findIn8 l dC dI ar cy _ hN st sl 13 n12 z13 (by omega) (by omega) hG.1 (by omega)) (va_cwS 4 hts gX12_readNew_X12_findIn rfl rfl rfl (by decide +kernel) ⟨Nat.le_of_ble_eq_true rfl, Nat.le_of_ble_eq_true rfl⟩) ⟨fun a U g mk q => ⟨q.1, mPre.blind q.2⟩, fun U hU hW => ⟨rfl, mPre.of hP hK hU hW⟩⟩ rfl rfl hl.1 rfl (lv_room (Nat.le_of_ble_eq_true rfl)) dX12_readNew_73 ⟨Nat.le_of_ble_eq_true rfl, Nat.le_of_ble_eq_true rfl⟩) hS (fun q _ h => MA.le hS.1 q h) (MA.le hS.1) (fun r14 x t H locs ht hvm hw hB _ _ hS => ?_)
        have hP := mB.at ht hB
        clear hB ht hvm
        obtain ⟨rfl, hw⟩ := hw
        have hP : va_P (dC, dI) vwCl (mw ar cy st sl) _ := hP
        rcases hw with rfl | ⟨n15, rfl, hf16⟩
        · refine lv_iconst (v := (-1)) hx hb dX12_readNew_76 (by decide) ?_
          refine lv_icmp_eq (tgt := 86) hx hb dX12_readNew_77 (by decide) (fun _ => ?_) (fun cc => absurd (by decide) cc)
          refine lv_aload_n hx hb dX12_readNew_86 rfl (lv_at hl 0 rfl) ?_
          refine va_get (D := (dC, dI)) (ci := 11) (v := .ref (ar 8)) (C := RX12) (T := TX12) (N := 47) hx hb hts ii_X12_readNew hown hK hP 0 rfl rfl 20 (by decide) (hts _ mm_X12_readNew_1) (fun _ hh => hh) rfl dX12_readNew_87 ?_
          refine lv_iload_n hx hb dX12_readNew_90 rfl (lv_at hl 1 rfl) ?_
          refine lv_aload_n hx hb dX12_readNew_91 rfl (lv_at hl 0 rfl) ?_
          refine va_get (D := (dC, dI)) (ci := 11) (v := .long (sl 0 12)) (C := RX12) (T := TX12) (N := 47) hx hb hts ii_X12_readNew hown hK hP 0 rfl rfl 12 (by decide) (hts _ mm_X12_readNew_3) (fun _ hh => hh) rfl dX12_readNew_92 ?_
          refine lv_topl (fun z17 ez17 => ?_)
          clear ez17
          refine va_last hx hb hK hP (mD hN _ _ _ _) hS 8 7 rfl rfl (i := (nI va)) (vp_in_nI (by omega) (by decide)) dX12_readNew_95 (fun H locs hP _ hS => ?_)
          rw [nI_clamp (by omega)] at hP
          have hP : va_P (dC, dI) vwCl (mw ar cy st (upL sl 8 va z17)) H := hP
          obtain ⟨sl18, esl18⟩ : ∃ y, y = upL sl 8 va z17 := ⟨_, rfl⟩
          rw [← esl18] at hP
          have hL : LQ [7, 9] sl sl18 := by rw [esl18]; exact hL.up (by decide)
          clear esl18
          refine lv_aload_n hx hb dX12_readNew_96 rfl (lv_at hl 0 rfl) ?_
          refine va_callv (va_runV (As := []) (rest := []) ⟨hx, hb, hml, hown, hts⟩ (m_go l dC dI ar cy _ hN st sl18 ga gb  hG.1 ((⟨by rw [hT.1], by rw [hT.2.1], by omega, by omega⟩ : TS st ga gb))) (cwV 0 hts gX12_readNew_X12_go rfl rfl rfl (by decide +kernel) ⟨Nat.le_of_ble_eq_true rfl, Nat.le_of_ble_eq_true rfl⟩) ⟨fun a U g mk q => ⟨q.1, mPre.blind q.2⟩, va_recv hK hP (ci := 11) (q0 := 0) rfl rfl, fun U hU hW => ⟨rfl, mPre.of hP hK hU hW⟩⟩ rfl rfl hl.1 rfl (lv_room (Nat.le_of_ble_eq_true rfl)) dX12_readNew_97 ⟨Nat.le_of_ble_eq_true rfl, Nat.le_of_ble_eq_true rfl⟩) hS (fun q _ h => MA.le hS.1 q h) (MA.le hS.1) (fun x t H locs ht hvm hw hB _ _ hS => ?_)
          have hP := mB.at ht hB
          clear hB ht hvm
          obtain ⟨st20, sl21⟩ := x
          obtain ⟨hG2, hL2, hw⟩ := hw
          have hL : LQ [7, 9] sl sl21 := hL.tr hL2 (by decide)
          clear hL2
          dsimp only at hw
          have hP : va_P (dC, dI) vwCl (mw ar cy st20 sl21) _ := hP
          have hG : MG [1, 2, 3, 6, 7, 8, 9, 10, 11, 12, 13, 14, 15, 19, 20, 21, 22] st st20 := hG.tr hG2 (by decide)
          have hGst20 : MG [1, 2, 3, 6, 7, 8, 9, 10, 11, 12, 13, 14, 15, 16, 19, 20, 21, 22, 23] st st20 := hG2
          clear hG2
          obtain ⟨n22, hf23, hf24, hf25⟩ := hw
          have hf23c := hf23.2.2.1
          have hf23d := hf23.2.2.2
          refine lv_iconst (v := 1) hx hb dX12_readNew_100 (by decide) ?_
          exact W.zret (v := 1) hx hb hr rfl (fun t ht hW => ⟨⟨1, (st20, sl21), rfl, ⟨hG, hL, Or.inl (⟨n22, rfl, (show TS st20 n22 gb from ⟨by rw [hf23.1], by rw [hf23.2.1], by omega, by omega⟩), by omega, fun (hh : st20 0 7 = 4) => by have hk := hf25 (by exact hh); omega⟩)⟩, mB.of ht hP⟩, hS.F ht⟩) hS.2.2 dX12_readNew_101
        · refine lv_iconst (v := (-1)) hx hb dX12_readNew_76 (by decide) ?_
          refine lv_icmp_eq (tgt := 86) hx hb dX12_readNew_77 (by decide) (fun cc => absurd cc (nI_nem (by omega))) (fun _ => ?_)
          refine lv_aload_n hx hb dX12_readNew_80 rfl (lv_at hl 0 rfl) ?_
          refine lv_iconst (v := 3) hx hb dX12_readNew_81 (by decide) ?_
          refine va_calli (va_runV (As := [.int 3]) (rest := []) ⟨hx, hb, hml, hown, hts⟩ (m_bad l dC dI ar cy _ hN st sl 3  hG.1) (cwV 1 hts gX12_readNew_X12_bad rfl rfl rfl (by decide +kernel) ⟨Nat.le_of_ble_eq_true rfl, Nat.le_of_ble_eq_true rfl⟩) ⟨fun a U g mk q => ⟨q.1, mPre.blind q.2⟩, va_recv hK hP (ci := 11) (q0 := 0) rfl rfl, fun U hU hW => ⟨rfl, mPre.of hP hK hU hW⟩⟩ rfl rfl hl.1 rfl (lv_room (Nat.le_of_ble_eq_true rfl)) dX12_readNew_82 ⟨Nat.le_of_ble_eq_true rfl, Nat.le_of_ble_eq_true rfl⟩) hS (fun q _ h => MA.le hS.1 q h) (MA.le hS.1) (fun r26 x t H locs ht hvm hw hB _ _ hS => ?_)
          have hP := mB.at ht hB
          clear hB ht hvm
          obtain ⟨st27, sl28⟩ := x
          obtain ⟨hG2, hL2, hw⟩ := hw
          have hL : LQ [7, 9] sl sl28 := hL.tr hL2 (by decide)
          clear hL2
          have hP : va_P (dC, dI) vwCl (mw ar cy st27 sl28) _ := hP
          have hG : MG [1, 2, 3, 6, 7, 8, 9, 10, 11, 12, 13, 14, 15, 19, 20, 21, 22] st st27 := hG.tr hG2 (by decide)
          have hGst27 : MG [1, 2, 3, 4, 5, 6, 7, 8, 9, 10, 11, 12, 13, 14, 15, 16, 17, 19, 20, 21, 22] st st27 := hG2
          clear hG2
          obtain rfl := hw
          exact W.zret (v := 0) hx hb hr rfl (fun t ht hW => ⟨⟨0, (st27, sl28), rfl, ⟨hG, hL, Or.inr (rfl)⟩, mB.of ht hP⟩, hS.F ht⟩) hS.2.2 dX12_readNew_85
      · refine lv_iconst (v := (-1)) hx hb dX12_readNew_53 (by decide) ?_
        refine lv_icmp_ne (tgt := 80) hx hb dX12_readNew_54 (by decide) (fun _ => ?_) (fun cc => absurd cc (nI_nem (by omega)))
        refine lv_aload_n hx hb dX12_readNew_80 rfl (lv_at hl 0 rfl) ?_
        refine lv_iconst (v := 3) hx hb dX12_readNew_81 (by decide) ?_
        refine va_calli (va_runV (As := [.int 3]) (rest := []) ⟨hx, hb, hml, hown, hts⟩ (m_bad l dC dI ar cy _ hN st sl 3  hG.1) (cwV 1 hts gX12_readNew_X12_bad rfl rfl rfl (by decide +kernel) ⟨Nat.le_of_ble_eq_true rfl, Nat.le_of_ble_eq_true rfl⟩) ⟨fun a U g mk q => ⟨q.1, mPre.blind q.2⟩, va_recv hK hP (ci := 11) (q0 := 0) rfl rfl, fun U hU hW => ⟨rfl, mPre.of hP hK hU hW⟩⟩ rfl rfl hl.1 rfl (lv_room (Nat.le_of_ble_eq_true rfl)) dX12_readNew_82 ⟨Nat.le_of_ble_eq_true rfl, Nat.le_of_ble_eq_true rfl⟩) hS (fun q _ h => MA.le hS.1 q h) (MA.le hS.1) (fun r29 x t H locs ht hvm hw hB _ _ hS => ?_)
        have hP := mB.at ht hB
        clear hB ht hvm
        obtain ⟨st30, sl31⟩ := x
        obtain ⟨hG2, hL2, hw⟩ := hw
        have hL : LQ [7, 9] sl sl31 := hL.tr hL2 (by decide)
        clear hL2
        have hP : va_P (dC, dI) vwCl (mw ar cy st30 sl31) _ := hP
        have hG : MG [1, 2, 3, 6, 7, 8, 9, 10, 11, 12, 13, 14, 15, 19, 20, 21, 22] st st30 := hG.tr hG2 (by decide)
        have hGst30 : MG [1, 2, 3, 4, 5, 6, 7, 8, 9, 10, 11, 12, 13, 14, 15, 16, 17, 19, 20, 21, 22] st st30 := hG2
        clear hG2
        obtain rfl := hw
        exact W.zret (v := 0) hx hb hr rfl (fun t ht hW => ⟨⟨0, (st30, sl31), rfl, ⟨hG, hL, Or.inr (rfl)⟩, mB.of ht hP⟩, hS.F ht⟩) hS.2.2 dX12_readNew_85
    · refine lv_iconst (v := (-1)) hx hb dX12_readNew_31 (by decide) ?_
      refine lv_icmp_ne (tgt := 80) hx hb dX12_readNew_32 (by decide) (fun _ => ?_) (fun cc => absurd cc (nI_nem (by omega)))
      refine lv_aload_n hx hb dX12_readNew_80 rfl (lv_at hl 0 rfl) ?_
      refine lv_iconst (v := 3) hx hb dX12_readNew_81 (by decide) ?_
      refine va_calli (va_runV (As := [.int 3]) (rest := []) ⟨hx, hb, hml, hown, hts⟩ (m_bad l dC dI ar cy _ hN st sl 3  hG.1) (cwV 1 hts gX12_readNew_X12_bad rfl rfl rfl (by decide +kernel) ⟨Nat.le_of_ble_eq_true rfl, Nat.le_of_ble_eq_true rfl⟩) ⟨fun a U g mk q => ⟨q.1, mPre.blind q.2⟩, va_recv hK hP (ci := 11) (q0 := 0) rfl rfl, fun U hU hW => ⟨rfl, mPre.of hP hK hU hW⟩⟩ rfl rfl hl.1 rfl (lv_room (Nat.le_of_ble_eq_true rfl)) dX12_readNew_82 ⟨Nat.le_of_ble_eq_true rfl, Nat.le_of_ble_eq_true rfl⟩) hS (fun q _ h => MA.le hS.1 q h) (MA.le hS.1) (fun r32 x t H locs ht hvm hw hB _ _ hS => ?_)
      have hP := mB.at ht hB
      clear hB ht hvm
      obtain ⟨st33, sl34⟩ := x
      obtain ⟨hG2, hL2, hw⟩ := hw
      have hL : LQ [7, 9] sl sl34 := hL.tr hL2 (by decide)
      clear hL2
      have hP : va_P (dC, dI) vwCl (mw ar cy st33 sl34) _ := hP
      have hG : MG [1, 2, 3, 6, 7, 8, 9, 10, 11, 12, 13, 14, 15, 19, 20, 21, 22] st st33 := hG.tr hG2 (by decide)
      have hGst33 : MG [1, 2, 3, 4, 5, 6, 7, 8, 9, 10, 11, 12, 13, 14, 15, 16, 17, 19, 20, 21, 22] st st33 := hG2
      clear hG2
      obtain rfl := hw
      exact W.zret (v := 0) hx hb hr rfl (fun t ht hW => ⟨⟨0, (st33, sl34), rfl, ⟨hG, hL, Or.inr (rfl)⟩, mB.of ht hP⟩, hS.F ht⟩) hS.2.2 dX12_readNew_85
  · refine lv_if_ne (tgt := 13) hx hb dX12_readNew_4 (by decide) (fun cc => absurd (by decide) cc) (fun _ => ?_)
    refine lv_aload_n hx hb dX12_readNew_7 rfl (lv_at hl 0 rfl) ?_
    refine lv_iconst (v := 1) hx hb dX12_readNew_8 (by decide) ?_
    refine va_calli (va_runV (As := [.int 1]) (rest := []) ⟨hx, hb, hml, hown, hts⟩ (m_bad l dC dI ar cy _ hN st sl 1  hG.1) (cwV 1 hts gX12_readNew_X12_bad rfl rfl rfl (by decide +kernel) ⟨Nat.le_of_ble_eq_true rfl, Nat.le_of_ble_eq_true rfl⟩) ⟨fun a U g mk q => ⟨q.1, mPre.blind q.2⟩, va_recv hK hP (ci := 11) (q0 := 0) rfl rfl, fun U hU hW => ⟨rfl, mPre.of hP hK hU hW⟩⟩ rfl rfl hl.1 rfl (lv_room (Nat.le_of_ble_eq_true rfl)) dX12_readNew_9 ⟨Nat.le_of_ble_eq_true rfl, Nat.le_of_ble_eq_true rfl⟩) hS (fun q _ h => MA.le hS.1 q h) (MA.le hS.1) (fun r35 x t H locs ht hvm hw hB _ _ hS => ?_)
    have hP := mB.at ht hB
    clear hB ht hvm
    obtain ⟨st36, sl37⟩ := x
    obtain ⟨hG2, hL2, hw⟩ := hw
    have hL : LQ [7, 9] sl sl37 := hL.tr hL2 (by decide)
    clear hL2
    have hP : va_P (dC, dI) vwCl (mw ar cy st36 sl37) _ := hP
    have hG : MG [1, 2, 3, 6, 7, 8, 9, 10, 11, 12, 13, 14, 15, 19, 20, 21, 22] st st36 := hG.tr hG2 (by decide)
    have hGst36 : MG [1, 2, 3, 4, 5, 6, 7, 8, 9, 10, 11, 12, 13, 14, 15, 16, 17, 19, 20, 21, 22] st st36 := hG2
    clear hG2
    obtain rfl := hw
    exact W.zret (v := 0) hx hb hr rfl (fun t ht hW => ⟨⟨0, (st36, sl37), rfl, ⟨hG, hL, Or.inr (rfl)⟩, mB.of ht hP⟩, hS.F ht⟩) hS.2.2 dX12_readNew_12
