set_option maxHeartbeats 4000000 in
set_option maxRecDepth 100000 in
theorem f_spelt0 (l : Launch) (dC : Nat → ClassId) (dI : Nat → Nat → Nat) (ar : Nat → Nat) (cy : Nat → ClassId) (sz : Nat) (hN : MN ar) (st : Nat → Nat → Int32) (sl : Nat → Nat → Int64) (hI : MI st) : Met l yX12_spelt wsX12_spelt ({ frames := 0, cells := 0, slots := 0, locals := 0 }) (va_Pc [.int 112, .int 108, .int 97, .int 99, .int 101, .int 0, .int 0] (mPre dC dI ar cy sz st sl)) (va_Ql (fun (r : Int64) (x : MT) => x = (st, sl) ∧ (r = 8740067)) (mB dC dI ar cy) (MA ar sz)) 0 0 (MA ar sz) := by
  refine Met.ofW (cc := cX12_spelt) (maxL := 9) (ret := (some .long)) (by decide) rfl ?_
  intro p9 e s m9 args below meth c9 s₁ B9 hml hv
  obtain ⟨rfl, hsz, hP, hK⟩ := hv
  have hx := B9.exec
  have hb := B9.bytes
  have hr := B9.returns
  have hts := atoms_spec (ws := wsX12_spelt) B9.pre
  have hown : s.vm.findClass RX12 = some m9.cls := findClass_of_methodNamed B9.named
  subst hsz
  have hS : va_S (MA ar s.heap.size) s.heap s.heap [] := va_S.rf
  have hG : MG [1, 2, 3, 4, 5, 6, 7, 8, 9, 10, 11, 12, 13, 14, 15, 16, 17, 19, 20, 21, 22, 23] st st := MG.rf hI
  have hl := lv_entry ([.int 112, .int 108, .int 97, .int 99, .int 101, .int 0, .int 0]) (n := 9) (Nat.le_of_ble_eq_true rfl)
  rw [lg_entry_eq]
  generalize (lg_sl ([.int 112, .int 108, .int 97, .int 99, .int 101, .int 0, .int 0]) ++ List.replicate (9 - (lg_sl ([.int 112, .int 108, .int 97, .int 99, .int 101, .int 0, .int 0])).length) Slot.unset).toArray = ls at hl ⊢
  have hl : lv_has ls 9 [(0, .int 112), (1, .int 108), (2, .int 97), (3, .int 99), (4, .int 101), (5, .int 0), (6, .int 0)] := hl
  clear hI
  refine lv_ldc2 (v := 27) hx hb hown (hts _ mm_X12_spelt_1) dX12_spelt_0 ?_
  refine lv_iload_n hx hb dX12_spelt_3 rfl (lv_at hl 0 rfl) ?_
  refine lv_i2l (v := 112) hx hb dX12_spelt_4 (by decide) ?_
  refine lv_ldc2 (v := 96) hx hb hown (hts _ mm_X12_spelt_2) dX12_spelt_5 ?_
  refine lv_lsub hx hb dX12_spelt_8 ?_
  refine zz_topl (v := 16) (by decide) ?_
  refine lv_lmul hx hb dX12_spelt_9 ?_
  refine zz_topl (v := 432) (by decide) ?_
  refine lv_iload_n hx hb dX12_spelt_10 rfl (lv_at hl 1 rfl) ?_
  refine lv_i2l (v := 108) hx hb dX12_spelt_11 (by decide) ?_
  refine lv_ladd hx hb dX12_spelt_12 ?_
  refine zz_topl (v := 540) (by decide) ?_
  refine lv_ldc2 (v := 96) hx hb hown (hts _ mm_X12_spelt_2) dX12_spelt_13 ?_
  refine lv_lsub hx hb dX12_spelt_16 ?_
  refine zz_topl (v := 444) (by decide) ?_
  refine lv_lstore (lv' := [(7, .long 444), (0, .int 112), (1, .int 108), (2, .int 97), (3, .int 99), (4, .int 101), (5, .int 0), (6, .int 0)]) hx hb dX12_spelt_17 hl (by decide) rfl (fun ls hl => ?_)
  refine lv_iload_n hx hb dX12_spelt_19 rfl (lv_at hl 3 rfl) ?_
  refine lv_if_le (tgt := 38) hx hb dX12_spelt_20 (by decide) (fun cc => absurd cc (by decide)) (fun _ => ?_)
  refine lv_ldc2 (v := 27) hx hb hown (hts _ mm_X12_spelt_1) dX12_spelt_23 ?_
  refine lv_lload hx hb dX12_spelt_26 (lv_at hl 0 rfl) ?_
  refine lv_lmul hx hb dX12_spelt_28 ?_
  refine zz_topl (v := 11988) (by decide) ?_
  refine lv_iload_n hx hb dX12_spelt_29 rfl (lv_at hl 3 rfl) ?_
  refine lv_i2l (v := 97) hx hb dX12_spelt_30 (by decide) ?_
  refine lv_ladd hx hb dX12_spelt_31 ?_
  refine zz_topl (v := 12085) (by decide) ?_
  refine lv_ldc2 (v := 96) hx hb hown (hts _ mm_X12_spelt_2) dX12_spelt_32 ?_
  refine lv_lsub hx hb dX12_spelt_35 ?_
  refine zz_topl (v := 11989) (by decide) ?_
  refine lv_lstore (lv' := [(7, .long 11989), (0, .int 112), (1, .int 108), (2, .int 97), (3, .int 99), (4, .int 101), (5, .int 0), (6, .int 0)]) hx hb dX12_spelt_36 hl (by decide) rfl (fun ls hl => ?_)
  refine lv_iload_n hx hb dX12_spelt_38 rfl (lv_at hl 4 rfl) ?_
  refine lv_if_le (tgt := 57) hx hb dX12_spelt_39 (by decide) (fun cc => absurd cc (by decide)) (fun _ => ?_)
  refine lv_ldc2 (v := 27) hx hb hown (hts _ mm_X12_spelt_1) dX12_spelt_42 ?_
  refine lv_lload hx hb dX12_spelt_45 (lv_at hl 0 rfl) ?_
  refine lv_lmul hx hb dX12_spelt_47 ?_
  refine zz_topl (v := 323703) (by decide) ?_
  refine lv_iload_n hx hb dX12_spelt_48 rfl (lv_at hl 4 rfl) ?_
  refine lv_i2l (v := 99) hx hb dX12_spelt_49 (by decide) ?_
  refine lv_ladd hx hb dX12_spelt_50 ?_
  refine zz_topl (v := 323802) (by decide) ?_
  refine lv_ldc2 (v := 96) hx hb hown (hts _ mm_X12_spelt_2) dX12_spelt_51 ?_
  refine lv_lsub hx hb dX12_spelt_54 ?_
  refine zz_topl (v := 323706) (by decide) ?_
  refine lv_lstore (lv' := [(7, .long 323706), (0, .int 112), (1, .int 108), (2, .int 97), (3, .int 99), (4, .int 101), (5, .int 0), (6, .int 0)]) hx hb dX12_spelt_55 hl (by decide) rfl (fun ls hl => ?_)
  refine lv_iload hx hb dX12_spelt_57 (lv_at hl 5 rfl) ?_
  refine lv_if_le (tgt := 78) hx hb dX12_spelt_59 (by decide) (fun cc => absurd cc (by decide)) (fun _ => ?_)
  refine lv_ldc2 (v := 27) hx hb hown (hts _ mm_X12_spelt_1) dX12_spelt_62 ?_
  refine lv_lload hx hb dX12_spelt_65 (lv_at hl 0 rfl) ?_
  refine lv_lmul hx hb dX12_spelt_67 ?_
  refine zz_topl (v := 8740062) (by decide) ?_
  refine lv_iload hx hb dX12_spelt_68 (lv_at hl 5 rfl) ?_
  refine lv_i2l (v := 101) hx hb dX12_spelt_70 (by decide) ?_
  refine lv_ladd hx hb dX12_spelt_71 ?_
  refine zz_topl (v := 8740163) (by decide) ?_
  refine lv_ldc2 (v := 96) hx hb hown (hts _ mm_X12_spelt_2) dX12_spelt_72 ?_
  refine lv_lsub hx hb dX12_spelt_75 ?_
  refine zz_topl (v := 8740067) (by decide) ?_
  refine lv_lstore (lv' := [(7, .long 8740067), (0, .int 112), (1, .int 108), (2, .int 97), (3, .int 99), (4, .int 101), (5, .int 0), (6, .int 0)]) hx hb dX12_spelt_76 hl (by decide) rfl (fun ls hl => ?_)
  refine lv_iload hx hb dX12_spelt_78 (lv_at hl 6 rfl) ?_
  refine lv_if_le (tgt := 99) hx hb dX12_spelt_80 (by decide) (fun _ => ?_) (fun cc => absurd (by decide) cc)
  refine lv_iload hx hb dX12_spelt_99 (lv_at hl 7 rfl) ?_
  refine lv_if_le (tgt := 120) hx hb dX12_spelt_101 (by decide) (fun _ => ?_) (fun cc => absurd (by decide) cc)
  refine lv_lload hx hb dX12_spelt_120 (lv_at hl 0 rfl) ?_
  exact W.lret (v := 8740067) hx hb hr (fun t ht hW => ⟨⟨8740067, (st, sl), rfl, ⟨rfl, rfl⟩, mB.of ht hP⟩, hS.F ht⟩) hS.2.2 dX12_spelt_122
set_option maxHeartbeats 4000000 in
set_option maxRecDepth 100000 in
theorem f_spelt1 (l : Launch) (dC : Nat → ClassId) (dI : Nat → Nat → Nat) (ar : Nat → Nat) (cy : Nat → ClassId) (sz : Nat) (hN : MN ar) (st : Nat → Nat → Int32) (sl : Nat → Nat → Int64) (hI : MI st) : Met l yX12_spelt wsX12_spelt ({ frames := 0, cells := 0, slots := 0, locals := 0 }) (va_Pc [.int 102, .int 101, .int 110, .int 99, .int 101, .int 100, .int 0] (mPre dC dI ar cy sz st sl)) (va_Ql (fun (r : Int64) (x : MT) => x = (st, sl) ∧ (r = 89028535)) (mB dC dI ar cy) (MA ar sz)) 0 0 (MA ar sz) := by
  refine Met.ofW (cc := cX12_spelt) (maxL := 9) (ret := (some .long)) (by decide) rfl ?_
  intro p9 e s m9 args below meth c9 s₁ B9 hml hv
  obtain ⟨rfl, hsz, hP, hK⟩ := hv
  have hx := B9.exec
  have hb := B9.bytes
  have hr := B9.returns
  have hts := atoms_spec (ws := wsX12_spelt) B9.pre
  have hown : s.vm.findClass RX12 = some m9.cls := findClass_of_methodNamed B9.named
  subst hsz
  have hS : va_S (MA ar s.heap.size) s.heap s.heap [] := va_S.rf
  have hG : MG [1, 2, 3, 4, 5, 6, 7, 8, 9, 10, 11, 12, 13, 14, 15, 16, 17, 19, 20, 21, 22, 23] st st := MG.rf hI
  have hl := lv_entry ([.int 102, .int 101, .int 110, .int 99, .int 101, .int 100, .int 0]) (n := 9) (Nat.le_of_ble_eq_true rfl)
  rw [lg_entry_eq]
  generalize (lg_sl ([.int 102, .int 101, .int 110, .int 99, .int 101, .int 100, .int 0]) ++ List.replicate (9 - (lg_sl ([.int 102, .int 101, .int 110, .int 99, .int 101, .int 100, .int 0])).length) Slot.unset).toArray = ls at hl ⊢
  have hl : lv_has ls 9 [(0, .int 102), (1, .int 101), (2, .int 110), (3, .int 99), (4, .int 101), (5, .int 100), (6, .int 0)] := hl
  clear hI
  refine lv_ldc2 (v := 27) hx hb hown (hts _ mm_X12_spelt_1) dX12_spelt_0 ?_
  refine lv_iload_n hx hb dX12_spelt_3 rfl (lv_at hl 0 rfl) ?_
  refine lv_i2l (v := 102) hx hb dX12_spelt_4 (by decide) ?_
  refine lv_ldc2 (v := 96) hx hb hown (hts _ mm_X12_spelt_2) dX12_spelt_5 ?_
  refine lv_lsub hx hb dX12_spelt_8 ?_
  refine zz_topl (v := 6) (by decide) ?_
  refine lv_lmul hx hb dX12_spelt_9 ?_
  refine zz_topl (v := 162) (by decide) ?_
  refine lv_iload_n hx hb dX12_spelt_10 rfl (lv_at hl 1 rfl) ?_
  refine lv_i2l (v := 101) hx hb dX12_spelt_11 (by decide) ?_
  refine lv_ladd hx hb dX12_spelt_12 ?_
  refine zz_topl (v := 263) (by decide) ?_
  refine lv_ldc2 (v := 96) hx hb hown (hts _ mm_X12_spelt_2) dX12_spelt_13 ?_
  refine lv_lsub hx hb dX12_spelt_16 ?_
  refine zz_topl (v := 167) (by decide) ?_
  refine lv_lstore (lv' := [(7, .long 167), (0, .int 102), (1, .int 101), (2, .int 110), (3, .int 99), (4, .int 101), (5, .int 100), (6, .int 0)]) hx hb dX12_spelt_17 hl (by decide) rfl (fun ls hl => ?_)
  refine lv_iload_n hx hb dX12_spelt_19 rfl (lv_at hl 3 rfl) ?_
  refine lv_if_le (tgt := 38) hx hb dX12_spelt_20 (by decide) (fun cc => absurd cc (by decide)) (fun _ => ?_)
  refine lv_ldc2 (v := 27) hx hb hown (hts _ mm_X12_spelt_1) dX12_spelt_23 ?_
  refine lv_lload hx hb dX12_spelt_26 (lv_at hl 0 rfl) ?_
  refine lv_lmul hx hb dX12_spelt_28 ?_
  refine zz_topl (v := 4509) (by decide) ?_
  refine lv_iload_n hx hb dX12_spelt_29 rfl (lv_at hl 3 rfl) ?_
  refine lv_i2l (v := 110) hx hb dX12_spelt_30 (by decide) ?_
  refine lv_ladd hx hb dX12_spelt_31 ?_
  refine zz_topl (v := 4619) (by decide) ?_
  refine lv_ldc2 (v := 96) hx hb hown (hts _ mm_X12_spelt_2) dX12_spelt_32 ?_
  refine lv_lsub hx hb dX12_spelt_35 ?_
  refine zz_topl (v := 4523) (by decide) ?_
  refine lv_lstore (lv' := [(7, .long 4523), (0, .int 102), (1, .int 101), (2, .int 110), (3, .int 99), (4, .int 101), (5, .int 100), (6, .int 0)]) hx hb dX12_spelt_36 hl (by decide) rfl (fun ls hl => ?_)
  refine lv_iload_n hx hb dX12_spelt_38 rfl (lv_at hl 4 rfl) ?_
  refine lv_if_le (tgt := 57) hx hb dX12_spelt_39 (by decide) (fun cc => absurd cc (by decide)) (fun _ => ?_)
  refine lv_ldc2 (v := 27) hx hb hown (hts _ mm_X12_spelt_1) dX12_spelt_42 ?_
  refine lv_lload hx hb dX12_spelt_45 (lv_at hl 0 rfl) ?_
  refine lv_lmul hx hb dX12_spelt_47 ?_
  refine zz_topl (v := 122121) (by decide) ?_
  refine lv_iload_n hx hb dX12_spelt_48 rfl (lv_at hl 4 rfl) ?_
  refine lv_i2l (v := 99) hx hb dX12_spelt_49 (by decide) ?_
  refine lv_ladd hx hb dX12_spelt_50 ?_
  refine zz_topl (v := 122220) (by decide) ?_
  refine lv_ldc2 (v := 96) hx hb hown (hts _ mm_X12_spelt_2) dX12_spelt_51 ?_
  refine lv_lsub hx hb dX12_spelt_54 ?_
  refine zz_topl (v := 122124) (by decide) ?_
  refine lv_lstore (lv' := [(7, .long 122124), (0, .int 102), (1, .int 101), (2, .int 110), (3, .int 99), (4, .int 101), (5, .int 100), (6, .int 0)]) hx hb dX12_spelt_55 hl (by decide) rfl (fun ls hl => ?_)
  refine lv_iload hx hb dX12_spelt_57 (lv_at hl 5 rfl) ?_
  refine lv_if_le (tgt := 78) hx hb dX12_spelt_59 (by decide) (fun cc => absurd cc (by decide)) (fun _ => ?_)
  refine lv_ldc2 (v := 27) hx hb hown (hts _ mm_X12_spelt_1) dX12_spelt_62 ?_
  refine lv_lload hx hb dX12_spelt_65 (lv_at hl 0 rfl) ?_
  refine lv_lmul hx hb dX12_spelt_67 ?_
  refine zz_topl (v := 3297348) (by decide) ?_
  refine lv_iload hx hb dX12_spelt_68 (lv_at hl 5 rfl) ?_
  refine lv_i2l (v := 101) hx hb dX12_spelt_70 (by decide) ?_
  refine lv_ladd hx hb dX12_spelt_71 ?_
  refine zz_topl (v := 3297449) (by decide) ?_
  refine lv_ldc2 (v := 96) hx hb hown (hts _ mm_X12_spelt_2) dX12_spelt_72 ?_
  refine lv_lsub hx hb dX12_spelt_75 ?_
  refine zz_topl (v := 3297353) (by decide) ?_
  refine lv_lstore (lv' := [(7, .long 3297353), (0, .int 102), (1, .int 101), (2, .int 110), (3, .int 99), (4, .int 101), (5, .int 100), (6, .int 0)]) hx hb dX12_spelt_76 hl (by decide) rfl (fun ls hl => ?_)
  refine lv_iload hx hb dX12_spelt_78 (lv_at hl 6 rfl) ?_
  refine lv_if_le (tgt := 99) hx hb dX12_spelt_80 (by decide) (fun cc => absurd cc (by decide)) (fun _ => ?_)
  refine lv_ldc2 (v := 27) hx hb hown (hts _ mm_X12_spelt_1) dX12_spelt_83 ?_
  refine lv_lload hx hb dX12_spelt_86 (lv_at hl 0 rfl) ?_
  refine lv_lmul hx hb dX12_spelt_88 ?_
  refine zz_topl (v := 89028531) (by decide) ?_
  refine lv_iload hx hb dX12_spelt_89 (lv_at hl 6 rfl) ?_
  refine lv_i2l (v := 100) hx hb dX12_spelt_91 (by decide) ?_
  refine lv_ladd hx hb dX12_spelt_92 ?_
  refine zz_topl (v := 89028631) (by decide) ?_
  refine lv_ldc2 (v := 96) hx hb hown (hts _ mm_X12_spelt_2) dX12_spelt_93 ?_
  refine lv_lsub hx hb dX12_spelt_96 ?_
  refine zz_topl (v := 89028535) (by decide) ?_
  refine lv_lstore (lv' := [(7, .long 89028535), (0, .int 102), (1, .int 101), (2, .int 110), (3, .int 99), (4, .int 101), (5, .int 100), (6, .int 0)]) hx hb dX12_spelt_97 hl (by decide) rfl (fun ls hl => ?_)
  refine lv_iload hx hb dX12_spelt_99 (lv_at hl 7 rfl) ?_
  refine lv_if_le (tgt := 120) hx hb dX12_spelt_101 (by decide) (fun _ => ?_) (fun cc => absurd (by decide) cc)
  refine lv_lload hx hb dX12_spelt_120 (lv_at hl 0 rfl) ?_
  exact W.lret (v := 89028535) hx hb hr (fun t ht hW => ⟨⟨89028535, (st, sl), rfl, ⟨rfl, rfl⟩, mB.of ht hP⟩, hS.F ht⟩) hS.2.2 dX12_spelt_122
set_option maxHeartbeats 4000000 in
set_option maxRecDepth 100000 in
theorem f_spelt2 (l : Launch) (dC : Nat → ClassId) (dI : Nat → Nat → Nat) (ar : Nat → Nat) (cy : Nat → ClassId) (sz : Nat) (hN : MN ar) (st : Nat → Nat → Int32) (sl : Nat → Nat → Int64) (hI : MI st) : Met l yX12_spelt wsX12_spelt ({ frames := 0, cells := 0, slots := 0, locals := 0 }) (va_Pc [.int 112, .int 101, .int 114, .int 115, .int 111, .int 110, .int 0] (mPre dC dI ar cy sz st sl)) (va_Ql (fun (r : Int64) (x : MT) => x = (st, sl) ∧ (r = 232608281)) (mB dC dI ar cy) (MA ar sz)) 0 0 (MA ar sz) := by
  refine Met.ofW (cc := cX12_spelt) (maxL := 9) (ret := (some .long)) (by decide) rfl ?_
  intro p9 e s m9 args below meth c9 s₁ B9 hml hv
  obtain ⟨rfl, hsz, hP, hK⟩ := hv
  have hx := B9.exec
  have hb := B9.bytes
  have hr := B9.returns
  have hts := atoms_spec (ws := wsX12_spelt) B9.pre
  have hown : s.vm.findClass RX12 = some m9.cls := findClass_of_methodNamed B9.named
  subst hsz
  have hS : va_S (MA ar s.heap.size) s.heap s.heap [] := va_S.rf
  have hG : MG [1, 2, 3, 4, 5, 6, 7, 8, 9, 10, 11, 12, 13, 14, 15, 16, 17, 19, 20, 21, 22, 23] st st := MG.rf hI
  have hl := lv_entry ([.int 112, .int 101, .int 114, .int 115, .int 111, .int 110, .int 0]) (n := 9) (Nat.le_of_ble_eq_true rfl)
  rw [lg_entry_eq]
  generalize (lg_sl ([.int 112, .int 101, .int 114, .int 115, .int 111, .int 110, .int 0]) ++ List.replicate (9 - (lg_sl ([.int 112, .int 101, .int 114, .int 115, .int 111, .int 110, .int 0])).length) Slot.unset).toArray = ls at hl ⊢
  have hl : lv_has ls 9 [(0, .int 112), (1, .int 101), (2, .int 114), (3, .int 115), (4, .int 111), (5, .int 110), (6, .int 0)] := hl
  clear hI
  refine lv_ldc2 (v := 27) hx hb hown (hts _ mm_X12_spelt_1) dX12_spelt_0 ?_
  refine lv_iload_n hx hb dX12_spelt_3 rfl (lv_at hl 0 rfl) ?_
  refine lv_i2l (v := 112) hx hb dX12_spelt_4 (by decide) ?_
  refine lv_ldc2 (v := 96) hx hb hown (hts _ mm_X12_spelt_2) dX12_spelt_5 ?_
  refine lv_lsub hx hb dX12_spelt_8 ?_
  refine zz_topl (v := 16) (by decide) ?_
  refine lv_lmul hx hb dX12_spelt_9 ?_
  refine zz_topl (v := 432) (by decide) ?_
  refine lv_iload_n hx hb dX12_spelt_10 rfl (lv_at hl 1 rfl) ?_
  refine lv_i2l (v := 101) hx hb dX12_spelt_11 (by decide) ?_
  refine lv_ladd hx hb dX12_spelt_12 ?_
  refine zz_topl (v := 533) (by decide) ?_
  refine lv_ldc2 (v := 96) hx hb hown (hts _ mm_X12_spelt_2) dX12_spelt_13 ?_
  refine lv_lsub hx hb dX12_spelt_16 ?_
  refine zz_topl (v := 437) (by decide) ?_
  refine lv_lstore (lv' := [(7, .long 437), (0, .int 112), (1, .int 101), (2, .int 114), (3, .int 115), (4, .int 111), (5, .int 110), (6, .int 0)]) hx hb dX12_spelt_17 hl (by decide) rfl (fun ls hl => ?_)
  refine lv_iload_n hx hb dX12_spelt_19 rfl (lv_at hl 3 rfl) ?_
  refine lv_if_le (tgt := 38) hx hb dX12_spelt_20 (by decide) (fun cc => absurd cc (by decide)) (fun _ => ?_)
  refine lv_ldc2 (v := 27) hx hb hown (hts _ mm_X12_spelt_1) dX12_spelt_23 ?_
  refine lv_lload hx hb dX12_spelt_26 (lv_at hl 0 rfl) ?_
  refine lv_lmul hx hb dX12_spelt_28 ?_
  refine zz_topl (v := 11799) (by decide) ?_
  refine lv_iload_n hx hb dX12_spelt_29 rfl (lv_at hl 3 rfl) ?_
  refine lv_i2l (v := 114) hx hb dX12_spelt_30 (by decide) ?_
  refine lv_ladd hx hb dX12_spelt_31 ?_
  refine zz_topl (v := 11913) (by decide) ?_
  refine lv_ldc2 (v := 96) hx hb hown (hts _ mm_X12_spelt_2) dX12_spelt_32 ?_
  refine lv_lsub hx hb dX12_spelt_35 ?_
  refine zz_topl (v := 11817) (by decide) ?_
  refine lv_lstore (lv' := [(7, .long 11817), (0, .int 112), (1, .int 101), (2, .int 114), (3, .int 115), (4, .int 111), (5, .int 110), (6, .int 0)]) hx hb dX12_spelt_36 hl (by decide) rfl (fun ls hl => ?_)
  refine lv_iload_n hx hb dX12_spelt_38 rfl (lv_at hl 4 rfl) ?_
  refine lv_if_le (tgt := 57) hx hb dX12_spelt_39 (by decide) (fun cc => absurd cc (by decide)) (fun _ => ?_)
  refine lv_ldc2 (v := 27) hx hb hown (hts _ mm_X12_spelt_1) dX12_spelt_42 ?_
  refine lv_lload hx hb dX12_spelt_45 (lv_at hl 0 rfl) ?_
  refine lv_lmul hx hb dX12_spelt_47 ?_
  refine zz_topl (v := 319059) (by decide) ?_
  refine lv_iload_n hx hb dX12_spelt_48 rfl (lv_at hl 4 rfl) ?_
  refine lv_i2l (v := 115) hx hb dX12_spelt_49 (by decide) ?_
  refine lv_ladd hx hb dX12_spelt_50 ?_
  refine zz_topl (v := 319174) (by decide) ?_
  refine lv_ldc2 (v := 96) hx hb hown (hts _ mm_X12_spelt_2) dX12_spelt_51 ?_
  refine lv_lsub hx hb dX12_spelt_54 ?_
  refine zz_topl (v := 319078) (by decide) ?_
  refine lv_lstore (lv' := [(7, .long 319078), (0, .int 112), (1, .int 101), (2, .int 114), (3, .int 115), (4, .int 111), (5, .int 110), (6, .int 0)]) hx hb dX12_spelt_55 hl (by decide) rfl (fun ls hl => ?_)
  refine lv_iload hx hb dX12_spelt_57 (lv_at hl 5 rfl) ?_
  refine lv_if_le (tgt := 78) hx hb dX12_spelt_59 (by decide) (fun cc => absurd cc (by decide)) (fun _ => ?_)
  refine lv_ldc2 (v := 27) hx hb hown (hts _ mm_X12_spelt_1) dX12_spelt_62 ?_
  refine lv_lload hx hb dX12_spelt_65 (lv_at hl 0 rfl) ?_
  refine lv_lmul hx hb dX12_spelt_67 ?_
  refine zz_topl (v := 8615106) (by decide) ?_
  refine lv_iload hx hb dX12_spelt_68 (lv_at hl 5 rfl) ?_
  refine lv_i2l (v := 111) hx hb dX12_spelt_70 (by decide) ?_
  refine lv_ladd hx hb dX12_spelt_71 ?_
  refine zz_topl (v := 8615217) (by decide) ?_
  refine lv_ldc2 (v := 96) hx hb hown (hts _ mm_X12_spelt_2) dX12_spelt_72 ?_
  refine lv_lsub hx hb dX12_spelt_75 ?_
  refine zz_topl (v := 8615121) (by decide) ?_
  refine lv_lstore (lv' := [(7, .long 8615121), (0, .int 112), (1, .int 101), (2, .int 114), (3, .int 115), (4, .int 111), (5, .int 110), (6, .int 0)]) hx hb dX12_spelt_76 hl (by decide) rfl (fun ls hl => ?_)
  refine lv_iload hx hb dX12_spelt_78 (lv_at hl 6 rfl) ?_
  refine lv_if_le (tgt := 99) hx hb dX12_spelt_80 (by decide) (fun cc => absurd cc (by decide)) (fun _ => ?_)
  refine lv_ldc2 (v := 27) hx hb hown (hts _ mm_X12_spelt_1) dX12_spelt_83 ?_
  refine lv_lload hx hb dX12_spelt_86 (lv_at hl 0 rfl) ?_
  refine lv_lmul hx hb dX12_spelt_88 ?_
  refine zz_topl (v := 232608267) (by decide) ?_
  refine lv_iload hx hb dX12_spelt_89 (lv_at hl 6 rfl) ?_
  refine lv_i2l (v := 110) hx hb dX12_spelt_91 (by decide) ?_
  refine lv_ladd hx hb dX12_spelt_92 ?_
  refine zz_topl (v := 232608377) (by decide) ?_
  refine lv_ldc2 (v := 96) hx hb hown (hts _ mm_X12_spelt_2) dX12_spelt_93 ?_
  refine lv_lsub hx hb dX12_spelt_96 ?_
  refine zz_topl (v := 232608281) (by decide) ?_
  refine lv_lstore (lv' := [(7, .long 232608281), (0, .int 112), (1, .int 101), (2, .int 114), (3, .int 115), (4, .int 111), (5, .int 110), (6, .int 0)]) hx hb dX12_spelt_97 hl (by decide) rfl (fun ls hl => ?_)
  refine lv_iload hx hb dX12_spelt_99 (lv_at hl 7 rfl) ?_
  refine lv_if_le (tgt := 120) hx hb dX12_spelt_101 (by decide) (fun _ => ?_) (fun cc => absurd (by decide) cc)
  refine lv_lload hx hb dX12_spelt_120 (lv_at hl 0 rfl) ?_
  exact W.lret (v := 232608281) hx hb hr (fun t ht hW => ⟨⟨232608281, (st, sl), rfl, ⟨rfl, rfl⟩, mB.of ht hP⟩, hS.F ht⟩) hS.2.2 dX12_spelt_122
set_option maxHeartbeats 4000000 in
set_option maxRecDepth 100000 in
theorem f_spelt3 (l : Launch) (dC : Nat → ClassId) (dI : Nat → Nat → Nat) (ar : Nat → Nat) (cy : Nat → ClassId) (sz : Nat) (hN : MN ar) (st : Nat → Nat → Int32) (sl : Nat → Nat → Int64) (hI : MI st) : Met l yX12_spelt wsX12_spelt ({ frames := 0, cells := 0, slots := 0, locals := 0 }) (va_Pc [.int 100, .int 111, .int 103, .int 0, .int 0, .int 0, .int 0] (mPre dC dI ar cy sz st sl)) (va_Ql (fun (r : Int64) (x : MT) => x = (st, sl) ∧ (r = 3328)) (mB dC dI ar cy) (MA ar sz)) 0 0 (MA ar sz) := by
  refine Met.ofW (cc := cX12_spelt) (maxL := 9) (ret := (some .long)) (by decide) rfl ?_
  intro p9 e s m9 args below meth c9 s₁ B9 hml hv
  obtain ⟨rfl, hsz, hP, hK⟩ := hv
  have hx := B9.exec
  have hb := B9.bytes
  have hr := B9.returns
  have hts := atoms_spec (ws := wsX12_spelt) B9.pre
  have hown : s.vm.findClass RX12 = some m9.cls := findClass_of_methodNamed B9.named
  subst hsz
  have hS : va_S (MA ar s.heap.size) s.heap s.heap [] := va_S.rf
  have hG : MG [1, 2, 3, 4, 5, 6, 7, 8, 9, 10, 11, 12, 13, 14, 15, 16, 17, 19, 20, 21, 22, 23] st st := MG.rf hI
  have hl := lv_entry ([.int 100, .int 111, .int 103, .int 0, .int 0, .int 0, .int 0]) (n := 9) (Nat.le_of_ble_eq_true rfl)
  rw [lg_entry_eq]
  generalize (lg_sl ([.int 100, .int 111, .int 103, .int 0, .int 0, .int 0, .int 0]) ++ List.replicate (9 - (lg_sl ([.int 100, .int 111, .int 103, .int 0, .int 0, .int 0, .int 0])).length) Slot.unset).toArray = ls at hl ⊢
  have hl : lv_has ls 9 [(0, .int 100), (1, .int 111), (2, .int 103), (3, .int 0), (4, .int 0), (5, .int 0), (6, .int 0)] := hl
  clear hI
  refine lv_ldc2 (v := 27) hx hb hown (hts _ mm_X12_spelt_1) dX12_spelt_0 ?_
  refine lv_iload_n hx hb dX12_spelt_3 rfl (lv_at hl 0 rfl) ?_
  refine lv_i2l (v := 100) hx hb dX12_spelt_4 (by decide) ?_
  refine lv_ldc2 (v := 96) hx hb hown (hts _ mm_X12_spelt_2) dX12_spelt_5 ?_
  refine lv_lsub hx hb dX12_spelt_8 ?_
  refine zz_topl (v := 4) (by decide) ?_
  refine lv_lmul hx hb dX12_spelt_9 ?_
  refine zz_topl (v := 108) (by decide) ?_
  refine lv_iload_n hx hb dX12_spelt_10 rfl (lv_at hl 1 rfl) ?_
  refine lv_i2l (v := 111) hx hb dX12_spelt_11 (by decide) ?_
  refine lv_ladd hx hb dX12_spelt_12 ?_
  refine zz_topl (v := 219) (by decide) ?_
  refine lv_ldc2 (v := 96) hx hb hown (hts _ mm_X12_spelt_2) dX12_spelt_13 ?_
  refine lv_lsub hx hb dX12_spelt_16 ?_
  refine zz_topl (v := 123) (by decide) ?_
  refine lv_lstore (lv' := [(7, .long 123), (0, .int 100), (1, .int 111), (2, .int 103), (3, .int 0), (4, .int 0), (5, .int 0), (6, .int 0)]) hx hb dX12_spelt_17 hl (by decide) rfl (fun ls hl => ?_)
  refine lv_iload_n hx hb dX12_spelt_19 rfl (lv_at hl 3 rfl) ?_
  refine lv_if_le (tgt := 38) hx hb dX12_spelt_20 (by decide) (fun cc => absurd cc (by decide)) (fun _ => ?_)
  refine lv_ldc2 (v := 27) hx hb hown (hts _ mm_X12_spelt_1) dX12_spelt_23 ?_
  refine lv_lload hx hb dX12_spelt_26 (lv_at hl 0 rfl) ?_
  refine lv_lmul hx hb dX12_spelt_28 ?_
  refine zz_topl (v := 3321) (by decide) ?_
  refine lv_iload_n hx hb dX12_spelt_29 rfl (lv_at hl 3 rfl) ?_
  refine lv_i2l (v := 103) hx hb dX12_spelt_30 (by decide) ?_
  refine lv_ladd hx hb dX12_spelt_31 ?_
  refine zz_topl (v := 3424) (by decide) ?_
  refine lv_ldc2 (v := 96) hx hb hown (hts _ mm_X12_spelt_2) dX12_spelt_32 ?_
  refine lv_lsub hx hb dX12_spelt_35 ?_
  refine zz_topl (v := 3328) (by decide) ?_
  refine lv_lstore (lv' := [(7, .long 3328), (0, .int 100), (1, .int 111), (2, .int 103), (3, .int 0), (4, .int 0), (5, .int 0), (6, .int 0)]) hx hb dX12_spelt_36 hl (by decide) rfl (fun ls hl => ?_)
  refine lv_iload_n hx hb dX12_spelt_38 rfl (lv_at hl 4 rfl) ?_
  refine lv_if_le (tgt := 57) hx hb dX12_spelt_39 (by decide) (fun _ => ?_) (fun cc => absurd (by decide) cc)
  refine lv_iload hx hb dX12_spelt_57 (lv_at hl 5 rfl) ?_
  refine lv_if_le (tgt := 78) hx hb dX12_spelt_59 (by decide) (fun _ => ?_) (fun cc => absurd (by decide) cc)
  refine lv_iload hx hb dX12_spelt_78 (lv_at hl 6 rfl) ?_
  refine lv_if_le (tgt := 99) hx hb dX12_spelt_80 (by decide) (fun _ => ?_) (fun cc => absurd (by decide) cc)
  refine lv_iload hx hb dX12_spelt_99 (lv_at hl 7 rfl) ?_
  refine lv_if_le (tgt := 120) hx hb dX12_spelt_101 (by decide) (fun _ => ?_) (fun cc => absurd (by decide) cc)
  refine lv_lload hx hb dX12_spelt_120 (lv_at hl 0 rfl) ?_
  exact W.lret (v := 3328) hx hb hr (fun t ht hW => ⟨⟨3328, (st, sl), rfl, ⟨rfl, rfl⟩, mB.of ht hP⟩, hS.F ht⟩) hS.2.2 dX12_spelt_122
set_option maxHeartbeats 4000000 in
set_option maxRecDepth 100000 in
theorem f_spelt4 (l : Launch) (dC : Nat → ClassId) (dI : Nat → Nat → Nat) (ar : Nat → Nat) (cy : Nat → ClassId) (sz : Nat) (hN : MN ar) (st : Nat → Nat → Int32) (sl : Nat → Nat → Int64) (hI : MI st) : Met l yX12_spelt wsX12_spelt ({ frames := 0, cells := 0, slots := 0, locals := 0 }) (va_Pc [.int 102, .int 114, .int 101, .int 101, .int 0, .int 0, .int 0] (mPre dC dI ar cy sz st sl)) (va_Ql (fun (r : Int64) (x : MT) => x = (st, sl) ∧ (r = 131360)) (mB dC dI ar cy) (MA ar sz)) 0 0 (MA ar sz) := by
  refine Met.ofW (cc := cX12_spelt) (maxL := 9) (ret := (some .long)) (by decide) rfl ?_
  intro p9 e s m9 args below meth c9 s₁ B9 hml hv
  obtain ⟨rfl, hsz, hP, hK⟩ := hv
  have hx := B9.exec
  have hb := B9.bytes
  have hr := B9.returns
  have hts := atoms_spec (ws := wsX12_spelt) B9.pre
  have hown : s.vm.findClass RX12 = some m9.cls := findClass_of_methodNamed B9.named
  subst hsz
  have hS : va_S (MA ar s.heap.size) s.heap s.heap [] := va_S.rf
  have hG : MG [1, 2, 3, 4, 5, 6, 7, 8, 9, 10, 11, 12, 13, 14, 15, 16, 17, 19, 20, 21, 22, 23] st st := MG.rf hI
  have hl := lv_entry ([.int 102, .int 114, .int 101, .int 101, .int 0, .int 0, .int 0]) (n := 9) (Nat.le_of_ble_eq_true rfl)
  rw [lg_entry_eq]
  generalize (lg_sl ([.int 102, .int 114, .int 101, .int 101, .int 0, .int 0, .int 0]) ++ List.replicate (9 - (lg_sl ([.int 102, .int 114, .int 101, .int 101, .int 0, .int 0, .int 0])).length) Slot.unset).toArray = ls at hl ⊢
  have hl : lv_has ls 9 [(0, .int 102), (1, .int 114), (2, .int 101), (3, .int 101), (4, .int 0), (5, .int 0), (6, .int 0)] := hl
  clear hI
  refine lv_ldc2 (v := 27) hx hb hown (hts _ mm_X12_spelt_1) dX12_spelt_0 ?_
  refine lv_iload_n hx hb dX12_spelt_3 rfl (lv_at hl 0 rfl) ?_
  refine lv_i2l (v := 102) hx hb dX12_spelt_4 (by decide) ?_
  refine lv_ldc2 (v := 96) hx hb hown (hts _ mm_X12_spelt_2) dX12_spelt_5 ?_
  refine lv_lsub hx hb dX12_spelt_8 ?_
  refine zz_topl (v := 6) (by decide) ?_
  refine lv_lmul hx hb dX12_spelt_9 ?_
  refine zz_topl (v := 162) (by decide) ?_
  refine lv_iload_n hx hb dX12_spelt_10 rfl (lv_at hl 1 rfl) ?_
  refine lv_i2l (v := 114) hx hb dX12_spelt_11 (by decide) ?_
  refine lv_ladd hx hb dX12_spelt_12 ?_
  refine zz_topl (v := 276) (by decide) ?_
  refine lv_ldc2 (v := 96) hx hb hown (hts _ mm_X12_spelt_2) dX12_spelt_13 ?_
  refine lv_lsub hx hb dX12_spelt_16 ?_
  refine zz_topl (v := 180) (by decide) ?_
  refine lv_lstore (lv' := [(7, .long 180), (0, .int 102), (1, .int 114), (2, .int 101), (3, .int 101), (4, .int 0), (5, .int 0), (6, .int 0)]) hx hb dX12_spelt_17 hl (by decide) rfl (fun ls hl => ?_)
  refine lv_iload_n hx hb dX12_spelt_19 rfl (lv_at hl 3 rfl) ?_
  refine lv_if_le (tgt := 38) hx hb dX12_spelt_20 (by decide) (fun cc => absurd cc (by decide)) (fun _ => ?_)
  refine lv_ldc2 (v := 27) hx hb hown (hts _ mm_X12_spelt_1) dX12_spelt_23 ?_
  refine lv_lload hx hb dX12_spelt_26 (lv_at hl 0 rfl) ?_
  refine lv_lmul hx hb dX12_spelt_28 ?_
  refine zz_topl (v := 4860) (by decide) ?_
  refine lv_iload_n hx hb dX12_spelt_29 rfl (lv_at hl 3 rfl) ?_
  refine lv_i2l (v := 101) hx hb dX12_spelt_30 (by decide) ?_
  refine lv_ladd hx hb dX12_spelt_31 ?_
  refine zz_topl (v := 4961) (by decide) ?_
  refine lv_ldc2 (v := 96) hx hb hown (hts _ mm_X12_spelt_2) dX12_spelt_32 ?_
  refine lv_lsub hx hb dX12_spelt_35 ?_
  refine zz_topl (v := 4865) (by decide) ?_
  refine lv_lstore (lv' := [(7, .long 4865), (0, .int 102), (1, .int 114), (2, .int 101), (3, .int 101), (4, .int 0), (5, .int 0), (6, .int 0)]) hx hb dX12_spelt_36 hl (by decide) rfl (fun ls hl => ?_)
  refine lv_iload_n hx hb dX12_spelt_38 rfl (lv_at hl 4 rfl) ?_
  refine lv_if_le (tgt := 57) hx hb dX12_spelt_39 (by decide) (fun cc => absurd cc (by decide)) (fun _ => ?_)
  refine lv_ldc2 (v := 27) hx hb hown (hts _ mm_X12_spelt_1) dX12_spelt_42 ?_
  refine lv_lload hx hb dX12_spelt_45 (lv_at hl 0 rfl) ?_
  refine lv_lmul hx hb dX12_spelt_47 ?_
  refine zz_topl (v := 131355) (by decide) ?_
  refine lv_iload_n hx hb dX12_spelt_48 rfl (lv_at hl 4 rfl) ?_
  refine lv_i2l (v := 101) hx hb dX12_spelt_49 (by decide) ?_
  refine lv_ladd hx hb dX12_spelt_50 ?_
  refine zz_topl (v := 131456) (by decide) ?_
  refine lv_ldc2 (v := 96) hx hb hown (hts _ mm_X12_spelt_2) dX12_spelt_51 ?_
  refine lv_lsub hx hb dX12_spelt_54 ?_
  refine zz_topl (v := 131360) (by decide) ?_
  refine lv_lstore (lv' := [(7, .long 131360), (0, .int 102), (1, .int 114), (2, .int 101), (3, .int 101), (4, .int 0), (5, .int 0), (6, .int 0)]) hx hb dX12_spelt_55 hl (by decide) rfl (fun ls hl => ?_)
  refine lv_iload hx hb dX12_spelt_57 (lv_at hl 5 rfl) ?_
  refine lv_if_le (tgt := 78) hx hb dX12_spelt_59 (by decide) (fun _ => ?_) (fun cc => absurd (by decide) cc)
  refine lv_iload hx hb dX12_spelt_78 (lv_at hl 6 rfl) ?_
  refine lv_if_le (tgt := 99) hx hb dX12_spelt_80 (by decide) (fun _ => ?_) (fun cc => absurd (by decide) cc)
  refine lv_iload hx hb dX12_spelt_99 (lv_at hl 7 rfl) ?_
  refine lv_if_le (tgt := 120) hx hb dX12_spelt_101 (by decide) (fun _ => ?_) (fun cc => absurd (by decide) cc)
  refine lv_lload hx hb dX12_spelt_120 (lv_at hl 0 rfl) ?_
  exact W.lret (v := 131360) hx hb hr (fun t ht hW => ⟨⟨131360, (st, sl), rfl, ⟨rfl, rfl⟩, mB.of ht hP⟩, hS.F ht⟩) hS.2.2 dX12_spelt_122
set_option maxHeartbeats 4000000 in
set_option maxRecDepth 100000 in
theorem f_spelt5 (l : Launch) (dC : Nat → ClassId) (dI : Nat → Nat → Nat) (ar : Nat → Nat) (cy : Nat → ClassId) (sz : Nat) (hN : MN ar) (st : Nat → Nat → Int32) (sl : Nat → Nat → Int64) (hI : MI st) : Met l yX12_spelt wsX12_spelt ({ frames := 0, cells := 0, slots := 0, locals := 0 }) (va_Pc [.int 115, .int 105, .int 103, .int 110, .int 0, .int 0, .int 0] (mPre dC dI ar cy sz st sl)) (va_Ql (fun (r : Int64) (x : MT) => x = (st, sl) ∧ (r = 380741)) (mB dC dI ar cy) (MA ar sz)) 0 0 (MA ar sz) := by
  refine Met.ofW (cc := cX12_spelt) (maxL := 9) (ret := (some .long)) (by decide) rfl ?_
  intro p9 e s m9 args below meth c9 s₁ B9 hml hv
  obtain ⟨rfl, hsz, hP, hK⟩ := hv
  have hx := B9.exec
  have hb := B9.bytes
  have hr := B9.returns
  have hts := atoms_spec (ws := wsX12_spelt) B9.pre
  have hown : s.vm.findClass RX12 = some m9.cls := findClass_of_methodNamed B9.named
  subst hsz
  have hS : va_S (MA ar s.heap.size) s.heap s.heap [] := va_S.rf
  have hG : MG [1, 2, 3, 4, 5, 6, 7, 8, 9, 10, 11, 12, 13, 14, 15, 16, 17, 19, 20, 21, 22, 23] st st := MG.rf hI
  have hl := lv_entry ([.int 115, .int 105, .int 103, .int 110, .int 0, .int 0, .int 0]) (n := 9) (Nat.le_of_ble_eq_true rfl)
  rw [lg_entry_eq]
  generalize (lg_sl ([.int 115, .int 105, .int 103, .int 110, .int 0, .int 0, .int 0]) ++ List.replicate (9 - (lg_sl ([.int 115, .int 105, .int 103, .int 110, .int 0, .int 0, .int 0])).length) Slot.unset).toArray = ls at hl ⊢
  have hl : lv_has ls 9 [(0, .int 115), (1, .int 105), (2, .int 103), (3, .int 110), (4, .int 0), (5, .int 0), (6, .int 0)] := hl
  clear hI
  refine lv_ldc2 (v := 27) hx hb hown (hts _ mm_X12_spelt_1) dX12_spelt_0 ?_
  refine lv_iload_n hx hb dX12_spelt_3 rfl (lv_at hl 0 rfl) ?_
  refine lv_i2l (v := 115) hx hb dX12_spelt_4 (by decide) ?_
  refine lv_ldc2 (v := 96) hx hb hown (hts _ mm_X12_spelt_2) dX12_spelt_5 ?_
  refine lv_lsub hx hb dX12_spelt_8 ?_
  refine zz_topl (v := 19) (by decide) ?_
  refine lv_lmul hx hb dX12_spelt_9 ?_
  refine zz_topl (v := 513) (by decide) ?_
  refine lv_iload_n hx hb dX12_spelt_10 rfl (lv_at hl 1 rfl) ?_
  refine lv_i2l (v := 105) hx hb dX12_spelt_11 (by decide) ?_
  refine lv_ladd hx hb dX12_spelt_12 ?_
  refine zz_topl (v := 618) (by decide) ?_
  refine lv_ldc2 (v := 96) hx hb hown (hts _ mm_X12_spelt_2) dX12_spelt_13 ?_
  refine lv_lsub hx hb dX12_spelt_16 ?_
  refine zz_topl (v := 522) (by decide) ?_
  refine lv_lstore (lv' := [(7, .long 522), (0, .int 115), (1, .int 105), (2, .int 103), (3, .int 110), (4, .int 0), (5, .int 0), (6, .int 0)]) hx hb dX12_spelt_17 hl (by decide) rfl (fun ls hl => ?_)
  refine lv_iload_n hx hb dX12_spelt_19 rfl (lv_at hl 3 rfl) ?_
  refine lv_if_le (tgt := 38) hx hb dX12_spelt_20 (by decide) (fun cc => absurd cc (by decide)) (fun _ => ?_)
  refine lv_ldc2 (v := 27) hx hb hown (hts _ mm_X12_spelt_1) dX12_spelt_23 ?_
  refine lv_lload hx hb dX12_spelt_26 (lv_at hl 0 rfl) ?_
  refine lv_lmul hx hb dX12_spelt_28 ?_
  refine zz_topl (v := 14094) (by decide) ?_
  refine lv_iload_n hx hb dX12_spelt_29 rfl (lv_at hl 3 rfl) ?_
  refine lv_i2l (v := 103) hx hb dX12_spelt_30 (by decide) ?_
  refine lv_ladd hx hb dX12_spelt_31 ?_
  refine zz_topl (v := 14197) (by decide) ?_
  refine lv_ldc2 (v := 96) hx hb hown (hts _ mm_X12_spelt_2) dX12_spelt_32 ?_
  refine lv_lsub hx hb dX12_spelt_35 ?_
  refine zz_topl (v := 14101) (by decide) ?_
  refine lv_lstore (lv' := [(7, .long 14101), (0, .int 115), (1, .int 105), (2, .int 103), (3, .int 110), (4, .int 0), (5, .int 0), (6, .int 0)]) hx hb dX12_spelt_36 hl (by decide) rfl (fun ls hl => ?_)
  refine lv_iload_n hx hb dX12_spelt_38 rfl (lv_at hl 4 rfl) ?_
  refine lv_if_le (tgt := 57) hx hb dX12_spelt_39 (by decide) (fun cc => absurd cc (by decide)) (fun _ => ?_)
  refine lv_ldc2 (v := 27) hx hb hown (hts _ mm_X12_spelt_1) dX12_spelt_42 ?_
  refine lv_lload hx hb dX12_spelt_45 (lv_at hl 0 rfl) ?_
  refine lv_lmul hx hb dX12_spelt_47 ?_
  refine zz_topl (v := 380727) (by decide) ?_
  refine lv_iload_n hx hb dX12_spelt_48 rfl (lv_at hl 4 rfl) ?_
  refine lv_i2l (v := 110) hx hb dX12_spelt_49 (by decide) ?_
  refine lv_ladd hx hb dX12_spelt_50 ?_
  refine zz_topl (v := 380837) (by decide) ?_
  refine lv_ldc2 (v := 96) hx hb hown (hts _ mm_X12_spelt_2) dX12_spelt_51 ?_
  refine lv_lsub hx hb dX12_spelt_54 ?_
  refine zz_topl (v := 380741) (by decide) ?_
  refine lv_lstore (lv' := [(7, .long 380741), (0, .int 115), (1, .int 105), (2, .int 103), (3, .int 110), (4, .int 0), (5, .int 0), (6, .int 0)]) hx hb dX12_spelt_55 hl (by decide) rfl (fun ls hl => ?_)
  refine lv_iload hx hb dX12_spelt_57 (lv_at hl 5 rfl) ?_
  refine lv_if_le (tgt := 78) hx hb dX12_spelt_59 (by decide) (fun _ => ?_) (fun cc => absurd (by decide) cc)
  refine lv_iload hx hb dX12_spelt_78 (lv_at hl 6 rfl) ?_
  refine lv_if_le (tgt := 99) hx hb dX12_spelt_80 (by decide) (fun _ => ?_) (fun cc => absurd (by decide) cc)
  refine lv_iload hx hb dX12_spelt_99 (lv_at hl 7 rfl) ?_
  refine lv_if_le (tgt := 120) hx hb dX12_spelt_101 (by decide) (fun _ => ?_) (fun cc => absurd (by decide) cc)
  refine lv_lload hx hb dX12_spelt_120 (lv_at hl 0 rfl) ?_
  exact W.lret (v := 380741) hx hb hr (fun t ht hW => ⟨⟨380741, (st, sl), rfl, ⟨rfl, rfl⟩, mB.of ht hP⟩, hS.F ht⟩) hS.2.2 dX12_spelt_122
set_option maxHeartbeats 4000000 in
set_option maxRecDepth 100000 in
theorem f_spelt6 (l : Launch) (dC : Nat → ClassId) (dI : Nat → Nat → Nat) (ar : Nat → Nat) (cy : Nat → ClassId) (sz : Nat) (hN : MN ar) (st : Nat → Nat → Int32) (sl : Nat → Nat → Int64) (hI : MI st) : Met l yX12_spelt wsX12_spelt ({ frames := 0, cells := 0, slots := 0, locals := 0 }) (va_Pc [.int 97, .int 108, .int 108, .int 111, .int 119, .int 0, .int 0] (mPre dC dI ar cy sz st sl)) (va_Ql (fun (r : Int64) (x : MT) => x = (st, sl) ∧ (r = 776813)) (mB dC dI ar cy) (MA ar sz)) 0 0 (MA ar sz) := by
  refine Met.ofW (cc := cX12_spelt) (maxL := 9) (ret := (some .long)) (by decide) rfl ?_
  intro p9 e s m9 args below meth c9 s₁ B9 hml hv
  obtain ⟨rfl, hsz, hP, hK⟩ := hv
  have hx := B9.exec
  have hb := B9.bytes
  have hr := B9.returns
  have hts := atoms_spec (ws := wsX12_spelt) B9.pre
  have hown : s.vm.findClass RX12 = some m9.cls := findClass_of_methodNamed B9.named
  subst hsz
  have hS : va_S (MA ar s.heap.size) s.heap s.heap [] := va_S.rf
  have hG : MG [1, 2, 3, 4, 5, 6, 7, 8, 9, 10, 11, 12, 13, 14, 15, 16, 17, 19, 20, 21, 22, 23] st st := MG.rf hI
  have hl := lv_entry ([.int 97, .int 108, .int 108, .int 111, .int 119, .int 0, .int 0]) (n := 9) (Nat.le_of_ble_eq_true rfl)
  rw [lg_entry_eq]
  generalize (lg_sl ([.int 97, .int 108, .int 108, .int 111, .int 119, .int 0, .int 0]) ++ List.replicate (9 - (lg_sl ([.int 97, .int 108, .int 108, .int 111, .int 119, .int 0, .int 0])).length) Slot.unset).toArray = ls at hl ⊢
  have hl : lv_has ls 9 [(0, .int 97), (1, .int 108), (2, .int 108), (3, .int 111), (4, .int 119), (5, .int 0), (6, .int 0)] := hl
  clear hI
  refine lv_ldc2 (v := 27) hx hb hown (hts _ mm_X12_spelt_1) dX12_spelt_0 ?_
  refine lv_iload_n hx hb dX12_spelt_3 rfl (lv_at hl 0 rfl) ?_
  refine lv_i2l (v := 97) hx hb dX12_spelt_4 (by decide) ?_
  refine lv_ldc2 (v := 96) hx hb hown (hts _ mm_X12_spelt_2) dX12_spelt_5 ?_
  refine lv_lsub hx hb dX12_spelt_8 ?_
  refine zz_topl (v := 1) (by decide) ?_
  refine lv_lmul hx hb dX12_spelt_9 ?_
  refine zz_topl (v := 27) (by decide) ?_
  refine lv_iload_n hx hb dX12_spelt_10 rfl (lv_at hl 1 rfl) ?_
  refine lv_i2l (v := 108) hx hb dX12_spelt_11 (by decide) ?_
  refine lv_ladd hx hb dX12_spelt_12 ?_
  refine zz_topl (v := 135) (by decide) ?_
  refine lv_ldc2 (v := 96) hx hb hown (hts _ mm_X12_spelt_2) dX12_spelt_13 ?_
  refine lv_lsub hx hb dX12_spelt_16 ?_
  refine zz_topl (v := 39) (by decide) ?_
  refine lv_lstore (lv' := [(7, .long 39), (0, .int 97), (1, .int 108), (2, .int 108), (3, .int 111), (4, .int 119), (5, .int 0), (6, .int 0)]) hx hb dX12_spelt_17 hl (by decide) rfl (fun ls hl => ?_)
  refine lv_iload_n hx hb dX12_spelt_19 rfl (lv_at hl 3 rfl) ?_
  refine lv_if_le (tgt := 38) hx hb dX12_spelt_20 (by decide) (fun cc => absurd cc (by decide)) (fun _ => ?_)
  refine lv_ldc2 (v := 27) hx hb hown (hts _ mm_X12_spelt_1) dX12_spelt_23 ?_
  refine lv_lload hx hb dX12_spelt_26 (lv_at hl 0 rfl) ?_
  refine lv_lmul hx hb dX12_spelt_28 ?_
  refine zz_topl (v := 1053) (by decide) ?_
  refine lv_iload_n hx hb dX12_spelt_29 rfl (lv_at hl 3 rfl) ?_
  refine lv_i2l (v := 108) hx hb dX12_spelt_30 (by decide) ?_
  refine lv_ladd hx hb dX12_spelt_31 ?_
  refine zz_topl (v := 1161) (by decide) ?_
  refine lv_ldc2 (v := 96) hx hb hown (hts _ mm_X12_spelt_2) dX12_spelt_32 ?_
  refine lv_lsub hx hb dX12_spelt_35 ?_
  refine zz_topl (v := 1065) (by decide) ?_
  refine lv_lstore (lv' := [(7, .long 1065), (0, .int 97), (1, .int 108), (2, .int 108), (3, .int 111), (4, .int 119), (5, .int 0), (6, .int 0)]) hx hb dX12_spelt_36 hl (by decide) rfl (fun ls hl => ?_)
  refine lv_iload_n hx hb dX12_spelt_38 rfl (lv_at hl 4 rfl) ?_
  refine lv_if_le (tgt := 57) hx hb dX12_spelt_39 (by decide) (fun cc => absurd cc (by decide)) (fun _ => ?_)
  refine lv_ldc2 (v := 27) hx hb hown (hts _ mm_X12_spelt_1) dX12_spelt_42 ?_
  refine lv_lload hx hb dX12_spelt_45 (lv_at hl 0 rfl) ?_
  refine lv_lmul hx hb dX12_spelt_47 ?_
  refine zz_topl (v := 28755) (by decide) ?_
  refine lv_iload_n hx hb dX12_spelt_48 rfl (lv_at hl 4 rfl) ?_
  refine lv_i2l (v := 111) hx hb dX12_spelt_49 (by decide) ?_
  refine lv_ladd hx hb dX12_spelt_50 ?_
  refine zz_topl (v := 28866) (by decide) ?_
  refine lv_ldc2 (v := 96) hx hb hown (hts _ mm_X12_spelt_2) dX12_spelt_51 ?_
  refine lv_lsub hx hb dX12_spelt_54 ?_
  refine zz_topl (v := 28770) (by decide) ?_
  refine lv_lstore (lv' := [(7, .long 28770), (0, .int 97), (1, .int 108), (2, .int 108), (3, .int 111), (4, .int 119), (5, .int 0), (6, .int 0)]) hx hb dX12_spelt_55 hl (by decide) rfl (fun ls hl => ?_)
  refine lv_iload hx hb dX12_spelt_57 (lv_at hl 5 rfl) ?_
  refine lv_if_le (tgt := 78) hx hb dX12_spelt_59 (by decide) (fun cc => absurd cc (by decide)) (fun _ => ?_)
  refine lv_ldc2 (v := 27) hx hb hown (hts _ mm_X12_spelt_1) dX12_spelt_62 ?_
  refine lv_lload hx hb dX12_spelt_65 (lv_at hl 0 rfl) ?_
  refine lv_lmul hx hb dX12_spelt_67 ?_
  refine zz_topl (v := 776790) (by decide) ?_
  refine lv_iload hx hb dX12_spelt_68 (lv_at hl 5 rfl) ?_
  refine lv_i2l (v := 119) hx hb dX12_spelt_70 (by decide) ?_
  refine lv_ladd hx hb dX12_spelt_71 ?_
  refine zz_topl (v := 776909) (by decide) ?_
  refine lv_ldc2 (v := 96) hx hb hown (hts _ mm_X12_spelt_2) dX12_spelt_72 ?_
  refine lv_lsub hx hb dX12_spelt_75 ?_
  refine zz_topl (v := 776813) (by decide) ?_
  refine lv_lstore (lv' := [(7, .long 776813), (0, .int 97), (1, .int 108), (2, .int 108), (3, .int 111), (4, .int 119), (5, .int 0), (6, .int 0)]) hx hb dX12_spelt_76 hl (by decide) rfl (fun ls hl => ?_)
  refine lv_iload hx hb dX12_spelt_78 (lv_at hl 6 rfl) ?_
  refine lv_if_le (tgt := 99) hx hb dX12_spelt_80 (by decide) (fun _ => ?_) (fun cc => absurd (by decide) cc)
  refine lv_iload hx hb dX12_spelt_99 (lv_at hl 7 rfl) ?_
  refine lv_if_le (tgt := 120) hx hb dX12_spelt_101 (by decide) (fun _ => ?_) (fun cc => absurd (by decide) cc)
  refine lv_lload hx hb dX12_spelt_120 (lv_at hl 0 rfl) ?_
  exact W.lret (v := 776813) hx hb hr (fun t ht hW => ⟨⟨776813, (st, sl), rfl, ⟨rfl, rfl⟩, mB.of ht hP⟩, hS.F ht⟩) hS.2.2 dX12_spelt_122
set_option maxHeartbeats 4000000 in
set_option maxRecDepth 100000 in
theorem f_spelt7 (l : Launch) (dC : Nat → ClassId) (dI : Nat → Nat → Nat) (ar : Nat → Nat) (cy : Nat → ClassId) (sz : Nat) (hN : MN ar) (st : Nat → Nat → Int32) (sl : Nat → Nat → Int64) (hI : MI st) : Met l yX12_spelt wsX12_spelt ({ frames := 0, cells := 0, slots := 0, locals := 0 }) (va_Pc [.int 102, .int 111, .int 114, .int 98, .int 105, .int 100, .int 0] (mPre dC dI ar cy sz st sl)) (va_Ql (fun (r : Int64) (x : MT) => x = (st, sl) ∧ (r = 94421056)) (mB dC dI ar cy) (MA ar sz)) 0 0 (MA ar sz) := by
  refine Met.ofW (cc := cX12_spelt) (maxL := 9) (ret := (some .long)) (by decide) rfl ?_
  intro p9 e s m9 args below meth c9 s₁ B9 hml hv
  obtain ⟨rfl, hsz, hP, hK⟩ := hv
  have hx := B9.exec
  have hb := B9.bytes
  have hr := B9.returns
  have hts := atoms_spec (ws := wsX12_spelt) B9.pre
  have hown : s.vm.findClass RX12 = some m9.cls := findClass_of_methodNamed B9.named
  subst hsz
  have hS : va_S (MA ar s.heap.size) s.heap s.heap [] := va_S.rf
  have hG : MG [1, 2, 3, 4, 5, 6, 7, 8, 9, 10, 11, 12, 13, 14, 15, 16, 17, 19, 20, 21, 22, 23] st st := MG.rf hI
  have hl := lv_entry ([.int 102, .int 111, .int 114, .int 98, .int 105, .int 100, .int 0]) (n := 9) (Nat.le_of_ble_eq_true rfl)
  rw [lg_entry_eq]
  generalize (lg_sl ([.int 102, .int 111, .int 114, .int 98, .int 105, .int 100, .int 0]) ++ List.replicate (9 - (lg_sl ([.int 102, .int 111, .int 114, .int 98, .int 105, .int 100, .int 0])).length) Slot.unset).toArray = ls at hl ⊢
  have hl : lv_has ls 9 [(0, .int 102), (1, .int 111), (2, .int 114), (3, .int 98), (4, .int 105), (5, .int 100), (6, .int 0)] := hl
  clear hI
  refine lv_ldc2 (v := 27) hx hb hown (hts _ mm_X12_spelt_1) dX12_spelt_0 ?_
  refine lv_iload_n hx hb dX12_spelt_3 rfl (lv_at hl 0 rfl) ?_
  refine lv_i2l (v := 102) hx hb dX12_spelt_4 (by decide) ?_
  refine lv_ldc2 (v := 96) hx hb hown (hts _ mm_X12_spelt_2) dX12_spelt_5 ?_
  refine lv_lsub hx hb dX12_spelt_8 ?_
  refine zz_topl (v := 6) (by decide) ?_
  refine lv_lmul hx hb dX12_spelt_9 ?_
  refine zz_topl (v := 162) (by decide) ?_
  refine lv_iload_n hx hb dX12_spelt_10 rfl (lv_at hl 1 rfl) ?_
  refine lv_i2l (v := 111) hx hb dX12_spelt_11 (by decide) ?_
  refine lv_ladd hx hb dX12_spelt_12 ?_
  refine zz_topl (v := 273) (by decide) ?_
  refine lv_ldc2 (v := 96) hx hb hown (hts _ mm_X12_spelt_2) dX12_spelt_13 ?_
  refine lv_lsub hx hb dX12_spelt_16 ?_
  refine zz_topl (v := 177) (by decide) ?_
  refine lv_lstore (lv' := [(7, .long 177), (0, .int 102), (1, .int 111), (2, .int 114), (3, .int 98), (4, .int 105), (5, .int 100), (6, .int 0)]) hx hb dX12_spelt_17 hl (by decide) rfl (fun ls hl => ?_)
  refine lv_iload_n hx hb dX12_spelt_19 rfl (lv_at hl 3 rfl) ?_
  refine lv_if_le (tgt := 38) hx hb dX12_spelt_20 (by decide) (fun cc => absurd cc (by decide)) (fun _ => ?_)
  refine lv_ldc2 (v := 27) hx hb hown (hts _ mm_X12_spelt_1) dX12_spelt_23 ?_
  refine lv_lload hx hb dX12_spelt_26 (lv_at hl 0 rfl) ?_
  refine lv_lmul hx hb dX12_spelt_28 ?_
  refine zz_topl (v := 4779) (by decide) ?_
  refine lv_iload_n hx hb dX12_spelt_29 rfl (lv_at hl 3 rfl) ?_
  refine lv_i2l (v := 114) hx hb dX12_spelt_30 (by decide) ?_
  refine lv_ladd hx hb dX12_spelt_31 ?_
  refine zz_topl (v := 4893) (by decide) ?_
  refine lv_ldc2 (v := 96) hx hb hown (hts _ mm_X12_spelt_2) dX12_spelt_32 ?_
  refine lv_lsub hx hb dX12_spelt_35 ?_
  refine zz_topl (v := 4797) (by decide) ?_
  refine lv_lstore (lv' := [(7, .long 4797), (0, .int 102), (1, .int 111), (2, .int 114), (3, .int 98), (4, .int 105), (5, .int 100), (6, .int 0)]) hx hb dX12_spelt_36 hl (by decide) rfl (fun ls hl => ?_)
  refine lv_iload_n hx hb dX12_spelt_38 rfl (lv_at hl 4 rfl) ?_
  refine lv_if_le (tgt := 57) hx hb dX12_spelt_39 (by decide) (fun cc => absurd cc (by decide)) (fun _ => ?_)
  refine lv_ldc2 (v := 27) hx hb hown (hts _ mm_X12_spelt_1) dX12_spelt_42 ?_
  refine lv_lload hx hb dX12_spelt_45 (lv_at hl 0 rfl) ?_
  refine lv_lmul hx hb dX12_spelt_47 ?_
  refine zz_topl (v := 129519) (by decide) ?_
  refine lv_iload_n hx hb dX12_spelt_48 rfl (lv_at hl 4 rfl) ?_
  refine lv_i2l (v := 98) hx hb dX12_spelt_49 (by decide) ?_
  refine lv_ladd hx hb dX12_spelt_50 ?_
  refine zz_topl (v := 129617) (by decide) ?_
  refine lv_ldc2 (v := 96) hx hb hown (hts _ mm_X12_spelt_2) dX12_spelt_51 ?_
  refine lv_lsub hx hb dX12_spelt_54 ?_
  refine zz_topl (v := 129521) (by decide) ?_
  refine lv_lstore (lv' := [(7, .long 129521), (0, .int 102), (1, .int 111), (2, .int 114), (3, .int 98), (4, .int 105), (5, .int 100), (6, .int 0)]) hx hb dX12_spelt_55 hl (by decide) rfl (fun ls hl => ?_)
  refine lv_iload hx hb dX12_spelt_57 (lv_at hl 5 rfl) ?_
  refine lv_if_le (tgt := 78) hx hb dX12_spelt_59 (by decide) (fun cc => absurd cc (by decide)) (fun _ => ?_)
  refine lv_ldc2 (v := 27) hx hb hown (hts _ mm_X12_spelt_1) dX12_spelt_62 ?_
  refine lv_lload hx hb dX12_spelt_65 (lv_at hl 0 rfl) ?_
  refine lv_lmul hx hb dX12_spelt_67 ?_
  refine zz_topl (v := 3497067) (by decide) ?_
  refine lv_iload hx hb dX12_spelt_68 (lv_at hl 5 rfl) ?_
  refine lv_i2l (v := 105) hx hb dX12_spelt_70 (by decide) ?_
  refine lv_ladd hx hb dX12_spelt_71 ?_
  refine zz_topl (v := 3497172) (by decide) ?_
  refine lv_ldc2 (v := 96) hx hb hown (hts _ mm_X12_spelt_2) dX12_spelt_72 ?_
  refine lv_lsub hx hb dX12_spelt_75 ?_
  refine zz_topl (v := 3497076) (by decide) ?_
  refine lv_lstore (lv' := [(7, .long 3497076), (0, .int 102), (1, .int 111), (2, .int 114), (3, .int 98), (4, .int 105), (5, .int 100), (6, .int 0)]) hx hb dX12_spelt_76 hl (by decide) rfl (fun ls hl => ?_)
  refine lv_iload hx hb dX12_spelt_78 (lv_at hl 6 rfl) ?_
  refine lv_if_le (tgt := 99) hx hb dX12_spelt_80 (by decide) (fun cc => absurd cc (by decide)) (fun _ => ?_)
  refine lv_ldc2 (v := 27) hx hb hown (hts _ mm_X12_spelt_1) dX12_spelt_83 ?_
  refine lv_lload hx hb dX12_spelt_86 (lv_at hl 0 rfl) ?_
  refine lv_lmul hx hb dX12_spelt_88 ?_
  refine zz_topl (v := 94421052) (by decide) ?_
  refine lv_iload hx hb dX12_spelt_89 (lv_at hl 6 rfl) ?_
  refine lv_i2l (v := 100) hx hb dX12_spelt_91 (by decide) ?_
  refine lv_ladd hx hb dX12_spelt_92 ?_
  refine zz_topl (v := 94421152) (by decide) ?_
  refine lv_ldc2 (v := 96) hx hb hown (hts _ mm_X12_spelt_2) dX12_spelt_93 ?_
  refine lv_lsub hx hb dX12_spelt_96 ?_
  refine zz_topl (v := 94421056) (by decide) ?_
  refine lv_lstore (lv' := [(7, .long 94421056), (0, .int 102), (1, .int 111), (2, .int 114), (3, .int 98), (4, .int 105), (5, .int 100), (6, .int 0)]) hx hb dX12_spelt_97 hl (by decide) rfl (fun ls hl => ?_)
  refine lv_iload hx hb dX12_spelt_99 (lv_at hl 7 rfl) ?_
  refine lv_if_le (tgt := 120) hx hb dX12_spelt_101 (by decide) (fun _ => ?_) (fun cc => absurd (by decide) cc)
  refine lv_lload hx hb dX12_spelt_120 (lv_at hl 0 rfl) ?_
  exact W.lret (v := 94421056) hx hb hr (fun t ht hW => ⟨⟨94421056, (st, sl), rfl, ⟨rfl, rfl⟩, mB.of ht hP⟩, hS.F ht⟩) hS.2.2 dX12_spelt_122
set_option maxHeartbeats 4000000 in
set_option maxRecDepth 100000 in
theorem f_spelt8 (l : Launch) (dC : Nat → ClassId) (dI : Nat → Nat → Nat) (ar : Nat → Nat) (cy : Nat → ClassId) (sz : Nat) (hN : MN ar) (st : Nat → Nat → Int32) (sl : Nat → Nat → Int64) (hI : MI st) : Met l yX12_spelt wsX12_spelt ({ frames := 0, cells := 0, slots := 0, locals := 0 }) (va_Pc [.int 102, .int 101, .int 110, .int 99, .int 101, .int 0, .int 0] (mPre dC dI ar cy sz st sl)) (va_Ql (fun (r : Int64) (x : MT) => x = (st, sl) ∧ (r = 3297353)) (mB dC dI ar cy) (MA ar sz)) 0 0 (MA ar sz) := by
  refine Met.ofW (cc := cX12_spelt) (maxL := 9) (ret := (some .long)) (by decide) rfl ?_
  intro p9 e s m9 args below meth c9 s₁ B9 hml hv
  obtain ⟨rfl, hsz, hP, hK⟩ := hv
  have hx := B9.exec
  have hb := B9.bytes
  have hr := B9.returns
  have hts := atoms_spec (ws := wsX12_spelt) B9.pre
  have hown : s.vm.findClass RX12 = some m9.cls := findClass_of_methodNamed B9.named
  subst hsz
  have hS : va_S (MA ar s.heap.size) s.heap s.heap [] := va_S.rf
  have hG : MG [1, 2, 3, 4, 5, 6, 7, 8, 9, 10, 11, 12, 13, 14, 15, 16, 17, 19, 20, 21, 22, 23] st st := MG.rf hI
  have hl := lv_entry ([.int 102, .int 101, .int 110, .int 99, .int 101, .int 0, .int 0]) (n := 9) (Nat.le_of_ble_eq_true rfl)
  rw [lg_entry_eq]
  generalize (lg_sl ([.int 102, .int 101, .int 110, .int 99, .int 101, .int 0, .int 0]) ++ List.replicate (9 - (lg_sl ([.int 102, .int 101, .int 110, .int 99, .int 101, .int 0, .int 0])).length) Slot.unset).toArray = ls at hl ⊢
  have hl : lv_has ls 9 [(0, .int 102), (1, .int 101), (2, .int 110), (3, .int 99), (4, .int 101), (5, .int 0), (6, .int 0)] := hl
  clear hI
  refine lv_ldc2 (v := 27) hx hb hown (hts _ mm_X12_spelt_1) dX12_spelt_0 ?_
  refine lv_iload_n hx hb dX12_spelt_3 rfl (lv_at hl 0 rfl) ?_
  refine lv_i2l (v := 102) hx hb dX12_spelt_4 (by decide) ?_
  refine lv_ldc2 (v := 96) hx hb hown (hts _ mm_X12_spelt_2) dX12_spelt_5 ?_
  refine lv_lsub hx hb dX12_spelt_8 ?_
  refine zz_topl (v := 6) (by decide) ?_
  refine lv_lmul hx hb dX12_spelt_9 ?_
  refine zz_topl (v := 162) (by decide) ?_
  refine lv_iload_n hx hb dX12_spelt_10 rfl (lv_at hl 1 rfl) ?_
  refine lv_i2l (v := 101) hx hb dX12_spelt_11 (by decide) ?_
  refine lv_ladd hx hb dX12_spelt_12 ?_
  refine zz_topl (v := 263) (by decide) ?_
  refine lv_ldc2 (v := 96) hx hb hown (hts _ mm_X12_spelt_2) dX12_spelt_13 ?_
  refine lv_lsub hx hb dX12_spelt_16 ?_
  refine zz_topl (v := 167) (by decide) ?_
  refine lv_lstore (lv' := [(7, .long 167), (0, .int 102), (1, .int 101), (2, .int 110), (3, .int 99), (4, .int 101), (5, .int 0), (6, .int 0)]) hx hb dX12_spelt_17 hl (by decide) rfl (fun ls hl => ?_)
  refine lv_iload_n hx hb dX12_spelt_19 rfl (lv_at hl 3 rfl) ?_
  refine lv_if_le (tgt := 38) hx hb dX12_spelt_20 (by decide) (fun cc => absurd cc (by decide)) (fun _ => ?_)
  refine lv_ldc2 (v := 27) hx hb hown (hts _ mm_X12_spelt_1) dX12_spelt_23 ?_
  refine lv_lload hx hb dX12_spelt_26 (lv_at hl 0 rfl) ?_
  refine lv_lmul hx hb dX12_spelt_28 ?_
  refine zz_topl (v := 4509) (by decide) ?_
  refine lv_iload_n hx hb dX12_spelt_29 rfl (lv_at hl 3 rfl) ?_
  refine lv_i2l (v := 110) hx hb dX12_spelt_30 (by decide) ?_
  refine lv_ladd hx hb dX12_spelt_31 ?_
  refine zz_topl (v := 4619) (by decide) ?_
  refine lv_ldc2 (v := 96) hx hb hown (hts _ mm_X12_spelt_2) dX12_spelt_32 ?_
  refine lv_lsub hx hb dX12_spelt_35 ?_
  refine zz_topl (v := 4523) (by decide) ?_
  refine lv_lstore (lv' := [(7, .long 4523), (0, .int 102), (1, .int 101), (2, .int 110), (3, .int 99), (4, .int 101), (5, .int 0), (6, .int 0)]) hx hb dX12_spelt_36 hl (by decide) rfl (fun ls hl => ?_)
  refine lv_iload_n hx hb dX12_spelt_38 rfl (lv_at hl 4 rfl) ?_
  refine lv_if_le (tgt := 57) hx hb dX12_spelt_39 (by decide) (fun cc => absurd cc (by decide)) (fun _ => ?_)
  refine lv_ldc2 (v := 27) hx hb hown (hts _ mm_X12_spelt_1) dX12_spelt_42 ?_
  refine lv_lload hx hb dX12_spelt_45 (lv_at hl 0 rfl) ?_
  refine lv_lmul hx hb dX12_spelt_47 ?_
  refine zz_topl (v := 122121) (by decide) ?_
  refine lv_iload_n hx hb dX12_spelt_48 rfl (lv_at hl 4 rfl) ?_
  refine lv_i2l (v := 99) hx hb dX12_spelt_49 (by decide) ?_
  refine lv_ladd hx hb dX12_spelt_50 ?_
  refine zz_topl (v := 122220) (by decide) ?_
  refine lv_ldc2 (v := 96) hx hb hown (hts _ mm_X12_spelt_2) dX12_spelt_51 ?_
  refine lv_lsub hx hb dX12_spelt_54 ?_
  refine zz_topl (v := 122124) (by decide) ?_
  refine lv_lstore (lv' := [(7, .long 122124), (0, .int 102), (1, .int 101), (2, .int 110), (3, .int 99), (4, .int 101), (5, .int 0), (6, .int 0)]) hx hb dX12_spelt_55 hl (by decide) rfl (fun ls hl => ?_)
  refine lv_iload hx hb dX12_spelt_57 (lv_at hl 5 rfl) ?_
  refine lv_if_le (tgt := 78) hx hb dX12_spelt_59 (by decide) (fun cc => absurd cc (by decide)) (fun _ => ?_)
  refine lv_ldc2 (v := 27) hx hb hown (hts _ mm_X12_spelt_1) dX12_spelt_62 ?_
  refine lv_lload hx hb dX12_spelt_65 (lv_at hl 0 rfl) ?_
  refine lv_lmul hx hb dX12_spelt_67 ?_
  refine zz_topl (v := 3297348) (by decide) ?_
  refine lv_iload hx hb dX12_spelt_68 (lv_at hl 5 rfl) ?_
  refine lv_i2l (v := 101) hx hb dX12_spelt_70 (by decide) ?_
  refine lv_ladd hx hb dX12_spelt_71 ?_
  refine zz_topl (v := 3297449) (by decide) ?_
  refine lv_ldc2 (v := 96) hx hb hown (hts _ mm_X12_spelt_2) dX12_spelt_72 ?_
  refine lv_lsub hx hb dX12_spelt_75 ?_
  refine zz_topl (v := 3297353) (by decide) ?_
  refine lv_lstore (lv' := [(7, .long 3297353), (0, .int 102), (1, .int 101), (2, .int 110), (3, .int 99), (4, .int 101), (5, .int 0), (6, .int 0)]) hx hb dX12_spelt_76 hl (by decide) rfl (fun ls hl => ?_)
  refine lv_iload hx hb dX12_spelt_78 (lv_at hl 6 rfl) ?_
  refine lv_if_le (tgt := 99) hx hb dX12_spelt_80 (by decide) (fun _ => ?_) (fun cc => absurd (by decide) cc)
  refine lv_iload hx hb dX12_spelt_99 (lv_at hl 7 rfl) ?_
  refine lv_if_le (tgt := 120) hx hb dX12_spelt_101 (by decide) (fun _ => ?_) (fun cc => absurd (by decide) cc)
  refine lv_lload hx hb dX12_spelt_120 (lv_at hl 0 rfl) ?_
  exact W.lret (v := 3297353) hx hb hr (fun t ht hW => ⟨⟨3297353, (st, sl), rfl, ⟨rfl, rfl⟩, mB.of ht hP⟩, hS.F ht⟩) hS.2.2 dX12_spelt_122
set_option maxHeartbeats 4000000 in
set_option maxRecDepth 100000 in
theorem f_spelt9 (l : Launch) (dC : Nat → ClassId) (dI : Nat → Nat → Nat) (ar : Nat → Nat) (cy : Nat → ClassId) (sz : Nat) (hN : MN ar) (st : Nat → Nat → Int32) (sl : Nat → Nat → Int64) (hI : MI st) : Met l yX12_spelt wsX12_spelt ({ frames := 0, cells := 0, slots := 0, locals := 0 }) (va_Pc [.int 104, .int 101, .int 108, .int 100, .int 0, .int 0, .int 0] (mPre dC dI ar cy sz st sl)) (va_Ql (fun (r : Int64) (x : MT) => x = (st, sl) ∧ (r = 161437)) (mB dC dI ar cy) (MA ar sz)) 0 0 (MA ar sz) := by
  refine Met.ofW (cc := cX12_spelt) (maxL := 9) (ret := (some .long)) (by decide) rfl ?_
  intro p9 e s m9 args below meth c9 s₁ B9 hml hv
  obtain ⟨rfl, hsz, hP, hK⟩ := hv
  have hx := B9.exec
  have hb := B9.bytes
  have hr := B9.returns
  have hts := atoms_spec (ws := wsX12_spelt) B9.pre
  have hown : s.vm.findClass RX12 = some m9.cls := findClass_of_methodNamed B9.named
  subst hsz
  have hS : va_S (MA ar s.heap.size) s.heap s.heap [] := va_S.rf
  have hG : MG [1, 2, 3, 4, 5, 6, 7, 8, 9, 10, 11, 12, 13, 14, 15, 16, 17, 19, 20, 21, 22, 23] st st := MG.rf hI
  have hl := lv_entry ([.int 104, .int 101, .int 108, .int 100, .int 0, .int 0, .int 0]) (n := 9) (Nat.le_of_ble_eq_true rfl)
  rw [lg_entry_eq]
  generalize (lg_sl ([.int 104, .int 101, .int 108, .int 100, .int 0, .int 0, .int 0]) ++ List.replicate (9 - (lg_sl ([.int 104, .int 101, .int 108, .int 100, .int 0, .int 0, .int 0])).length) Slot.unset).toArray = ls at hl ⊢
  have hl : lv_has ls 9 [(0, .int 104), (1, .int 101), (2, .int 108), (3, .int 100), (4, .int 0), (5, .int 0), (6, .int 0)] := hl
  clear hI
  refine lv_ldc2 (v := 27) hx hb hown (hts _ mm_X12_spelt_1) dX12_spelt_0 ?_
  refine lv_iload_n hx hb dX12_spelt_3 rfl (lv_at hl 0 rfl) ?_
  refine lv_i2l (v := 104) hx hb dX12_spelt_4 (by decide) ?_
  refine lv_ldc2 (v := 96) hx hb hown (hts _ mm_X12_spelt_2) dX12_spelt_5 ?_
  refine lv_lsub hx hb dX12_spelt_8 ?_
  refine zz_topl (v := 8) (by decide) ?_
  refine lv_lmul hx hb dX12_spelt_9 ?_
  refine zz_topl (v := 216) (by decide) ?_
  refine lv_iload_n hx hb dX12_spelt_10 rfl (lv_at hl 1 rfl) ?_
  refine lv_i2l (v := 101) hx hb dX12_spelt_11 (by decide) ?_
  refine lv_ladd hx hb dX12_spelt_12 ?_
  refine zz_topl (v := 317) (by decide) ?_
  refine lv_ldc2 (v := 96) hx hb hown (hts _ mm_X12_spelt_2) dX12_spelt_13 ?_
  refine lv_lsub hx hb dX12_spelt_16 ?_
  refine zz_topl (v := 221) (by decide) ?_
  refine lv_lstore (lv' := [(7, .long 221), (0, .int 104), (1, .int 101), (2, .int 108), (3, .int 100), (4, .int 0), (5, .int 0), (6, .int 0)]) hx hb dX12_spelt_17 hl (by decide) rfl (fun ls hl => ?_)
  refine lv_iload_n hx hb dX12_spelt_19 rfl (lv_at hl 3 rfl) ?_
  refine lv_if_le (tgt := 38) hx hb dX12_spelt_20 (by decide) (fun cc => absurd cc (by decide)) (fun _ => ?_)
  refine lv_ldc2 (v := 27) hx hb hown (hts _ mm_X12_spelt_1) dX12_spelt_23 ?_
  refine lv_lload hx hb dX12_spelt_26 (lv_at hl 0 rfl) ?_
  refine lv_lmul hx hb dX12_spelt_28 ?_
  refine zz_topl (v := 5967) (by decide) ?_
  refine lv_iload_n hx hb dX12_spelt_29 rfl (lv_at hl 3 rfl) ?_
  refine lv_i2l (v := 108) hx hb dX12_spelt_30 (by decide) ?_
  refine lv_ladd hx hb dX12_spelt_31 ?_
  refine zz_topl (v := 6075) (by decide) ?_
  refine lv_ldc2 (v := 96) hx hb hown (hts _ mm_X12_spelt_2) dX12_spelt_32 ?_
  refine lv_lsub hx hb dX12_spelt_35 ?_
  refine zz_topl (v := 5979) (by decide) ?_
  refine lv_lstore (lv' := [(7, .long 5979), (0, .int 104), (1, .int 101), (2, .int 108), (3, .int 100), (4, .int 0), (5, .int 0), (6, .int 0)]) hx hb dX12_spelt_36 hl (by decide) rfl (fun ls hl => ?_)
  refine lv_iload_n hx hb dX12_spelt_38 rfl (lv_at hl 4 rfl) ?_
  refine lv_if_le (tgt := 57) hx hb dX12_spelt_39 (by decide) (fun cc => absurd cc (by decide)) (fun _ => ?_)
  refine lv_ldc2 (v := 27) hx hb hown (hts _ mm_X12_spelt_1) dX12_spelt_42 ?_
  refine lv_lload hx hb dX12_spelt_45 (lv_at hl 0 rfl) ?_
  refine lv_lmul hx hb dX12_spelt_47 ?_
  refine zz_topl (v := 161433) (by decide) ?_
  refine lv_iload_n hx hb dX12_spelt_48 rfl (lv_at hl 4 rfl) ?_
  refine lv_i2l (v := 100) hx hb dX12_spelt_49 (by decide) ?_
  refine lv_ladd hx hb dX12_spelt_50 ?_
  refine zz_topl (v := 161533) (by decide) ?_
  refine lv_ldc2 (v := 96) hx hb hown (hts _ mm_X12_spelt_2) dX12_spelt_51 ?_
  refine lv_lsub hx hb dX12_spelt_54 ?_
  refine zz_topl (v := 161437) (by decide) ?_
  refine lv_lstore (lv' := [(7, .long 161437), (0, .int 104), (1, .int 101), (2, .int 108), (3, .int 100), (4, .int 0), (5, .int 0), (6, .int 0)]) hx hb dX12_spelt_55 hl (by decide) rfl (fun ls hl => ?_)
  refine lv_iload hx hb dX12_spelt_57 (lv_at hl 5 rfl) ?_
  refine lv_if_le (tgt := 78) hx hb dX12_spelt_59 (by decide) (fun _ => ?_) (fun cc => absurd (by decide) cc)
  refine lv_iload hx hb dX12_spelt_78 (lv_at hl 6 rfl) ?_
  refine lv_if_le (tgt := 99) hx hb dX12_spelt_80 (by decide) (fun _ => ?_) (fun cc => absurd (by decide) cc)
  refine lv_iload hx hb dX12_spelt_99 (lv_at hl 7 rfl) ?_
  refine lv_if_le (tgt := 120) hx hb dX12_spelt_101 (by decide) (fun _ => ?_) (fun cc => absurd (by decide) cc)
  refine lv_lload hx hb dX12_spelt_120 (lv_at hl 0 rfl) ?_
  exact W.lret (v := 161437) hx hb hr (fun t ht hW => ⟨⟨161437, (st, sl), rfl, ⟨rfl, rfl⟩, mB.of ht hP⟩, hS.F ht⟩) hS.2.2 dX12_spelt_122
set_option maxHeartbeats 4000000 in
set_option maxRecDepth 100000 in
theorem f_spelt10 (l : Launch) (dC : Nat → ClassId) (dI : Nat → Nat → Nat) (ar : Nat → Nat) (cy : Nat → ClassId) (sz : Nat) (hN : MN ar) (st : Nat → Nat → Int32) (sl : Nat → Nat → Int64) (hI : MI st) : Met l yX12_spelt wsX12_spelt ({ frames := 0, cells := 0, slots := 0, locals := 0 }) (va_Pc [.int 108, .int 111, .int 111, .int 115, .int 101, .int 0, .int 0] (mPre dC dI ar cy sz st sl)) (va_Ql (fun (r : Int64) (x : MT) => x = (st, sl) ∧ (r = 6683990)) (mB dC dI ar cy) (MA ar sz)) 0 0 (MA ar sz) := by
  refine Met.ofW (cc := cX12_spelt) (maxL := 9) (ret := (some .long)) (by decide) rfl ?_
  intro p9 e s m9 args below meth c9 s₁ B9 hml hv
  obtain ⟨rfl, hsz, hP, hK⟩ := hv
  have hx := B9.exec
  have hb := B9.bytes
  have hr := B9.returns
  have hts := atoms_spec (ws := wsX12_spelt) B9.pre
  have hown : s.vm.findClass RX12 = some m9.cls := findClass_of_methodNamed B9.named
  subst hsz
  have hS : va_S (MA ar s.heap.size) s.heap s.heap [] := va_S.rf
  have hG : MG [1, 2, 3, 4, 5, 6, 7, 8, 9, 10, 11, 12, 13, 14, 15, 16, 17, 19, 20, 21, 22, 23] st st := MG.rf hI
  have hl := lv_entry ([.int 108, .int 111, .int 111, .int 115, .int 101, .int 0, .int 0]) (n := 9) (Nat.le_of_ble_eq_true rfl)
  rw [lg_entry_eq]
  generalize (lg_sl ([.int 108, .int 111, .int 111, .int 115, .int 101, .int 0, .int 0]) ++ List.replicate (9 - (lg_sl ([.int 108, .int 111, .int 111, .int 115, .int 101, .int 0, .int 0])).length) Slot.unset).toArray = ls at hl ⊢
  have hl : lv_has ls 9 [(0, .int 108), (1, .int 111), (2, .int 111), (3, .int 115), (4, .int 101), (5, .int 0), (6, .int 0)] := hl
  clear hI
  refine lv_ldc2 (v := 27) hx hb hown (hts _ mm_X12_spelt_1) dX12_spelt_0 ?_
  refine lv_iload_n hx hb dX12_spelt_3 rfl (lv_at hl 0 rfl) ?_
  refine lv_i2l (v := 108) hx hb dX12_spelt_4 (by decide) ?_
  refine lv_ldc2 (v := 96) hx hb hown (hts _ mm_X12_spelt_2) dX12_spelt_5 ?_
  refine lv_lsub hx hb dX12_spelt_8 ?_
  refine zz_topl (v := 12) (by decide) ?_
  refine lv_lmul hx hb dX12_spelt_9 ?_
  refine zz_topl (v := 324) (by decide) ?_
  refine lv_iload_n hx hb dX12_spelt_10 rfl (lv_at hl 1 rfl) ?_
  refine lv_i2l (v := 111) hx hb dX12_spelt_11 (by decide) ?_
  refine lv_ladd hx hb dX12_spelt_12 ?_
  refine zz_topl (v := 435) (by decide) ?_
  refine lv_ldc2 (v := 96) hx hb hown (hts _ mm_X12_spelt_2) dX12_spelt_13 ?_
  refine lv_lsub hx hb dX12_spelt_16 ?_
  refine zz_topl (v := 339) (by decide) ?_
  refine lv_lstore (lv' := [(7, .long 339), (0, .int 108), (1, .int 111), (2, .int 111), (3, .int 115), (4, .int 101), (5, .int 0), (6, .int 0)]) hx hb dX12_spelt_17 hl (by decide) rfl (fun ls hl => ?_)
  refine lv_iload_n hx hb dX12_spelt_19 rfl (lv_at hl 3 rfl) ?_
  refine lv_if_le (tgt := 38) hx hb dX12_spelt_20 (by decide) (fun cc => absurd cc (by decide)) (fun _ => ?_)
  refine lv_ldc2 (v := 27) hx hb hown (hts _ mm_X12_spelt_1) dX12_spelt_23 ?_
  refine lv_lload hx hb dX12_spelt_26 (lv_at hl 0 rfl) ?_
  refine lv_lmul hx hb dX12_spelt_28 ?_
  refine zz_topl (v := 9153) (by decide) ?_
  refine lv_iload_n hx hb dX12_spelt_29 rfl (lv_at hl 3 rfl) ?_
  refine lv_i2l (v := 111) hx hb dX12_spelt_30 (by decide) ?_
  refine lv_ladd hx hb dX12_spelt_31 ?_
  refine zz_topl (v := 9264) (by decide) ?_
  refine lv_ldc2 (v := 96) hx hb hown (hts _ mm_X12_spelt_2) dX12_spelt_32 ?_
  refine lv_lsub hx hb dX12_spelt_35 ?_
  refine zz_topl (v := 9168) (by decide) ?_
  refine lv_lstore (lv' := [(7, .long 9168), (0, .int 108), (1, .int 111), (2, .int 111), (3, .int 115), (4, .int 101), (5, .int 0), (6, .int 0)]) hx hb dX12_spelt_36 hl (by decide) rfl (fun ls hl => ?_)
  refine lv_iload_n hx hb dX12_spelt_38 rfl (lv_at hl 4 rfl) ?_
  refine lv_if_le (tgt := 57) hx hb dX12_spelt_39 (by decide) (fun cc => absurd cc (by decide)) (fun _ => ?_)
  refine lv_ldc2 (v := 27) hx hb hown (hts _ mm_X12_spelt_1) dX12_spelt_42 ?_
  refine lv_lload hx hb dX12_spelt_45 (lv_at hl 0 rfl) ?_
  refine lv_lmul hx hb dX12_spelt_47 ?_
  refine zz_topl (v := 247536) (by decide) ?_
  refine lv_iload_n hx hb dX12_spelt_48 rfl (lv_at hl 4 rfl) ?_
  refine lv_i2l (v := 115) hx hb dX12_spelt_49 (by decide) ?_
  refine lv_ladd hx hb dX12_spelt_50 ?_
  refine zz_topl (v := 247651) (by decide) ?_
  refine lv_ldc2 (v := 96) hx hb hown (hts _ mm_X12_spelt_2) dX12_spelt_51 ?_
  refine lv_lsub hx hb dX12_spelt_54 ?_
  refine zz_topl (v := 247555) (by decide) ?_
  refine lv_lstore (lv' := [(7, .long 247555), (0, .int 108), (1, .int 111), (2, .int 111), (3, .int 115), (4, .int 101), (5, .int 0), (6, .int 0)]) hx hb dX12_spelt_55 hl (by decide) rfl (fun ls hl => ?_)
  refine lv_iload hx hb dX12_spelt_57 (lv_at hl 5 rfl) ?_
  refine lv_if_le (tgt := 78) hx hb dX12_spelt_59 (by decide) (fun cc => absurd cc (by decide)) (fun _ => ?_)
  refine lv_ldc2 (v := 27) hx hb hown (hts _ mm_X12_spelt_1) dX12_spelt_62 ?_
  refine lv_lload hx hb dX12_spelt_65 (lv_at hl 0 rfl) ?_
  refine lv_lmul hx hb dX12_spelt_67 ?_
  refine zz_topl (v := 6683985) (by decide) ?_
  refine lv_iload hx hb dX12_spelt_68 (lv_at hl 5 rfl) ?_
  refine lv_i2l (v := 101) hx hb dX12_spelt_70 (by decide) ?_
  refine lv_ladd hx hb dX12_spelt_71 ?_
  refine zz_topl (v := 6684086) (by decide) ?_
  refine lv_ldc2 (v := 96) hx hb hown (hts _ mm_X12_spelt_2) dX12_spelt_72 ?_
  refine lv_lsub hx hb dX12_spelt_75 ?_
  refine zz_topl (v := 6683990) (by decide) ?_
  refine lv_lstore (lv' := [(7, .long 6683990), (0, .int 108), (1, .int 111), (2, .int 111), (3, .int 115), (4, .int 101), (5, .int 0), (6, .int 0)]) hx hb dX12_spelt_76 hl (by decide) rfl (fun ls hl => ?_)
  refine lv_iload hx hb dX12_spelt_78 (lv_at hl 6 rfl) ?_
  refine lv_if_le (tgt := 99) hx hb dX12_spelt_80 (by decide) (fun _ => ?_) (fun cc => absurd (by decide) cc)
  refine lv_iload hx hb dX12_spelt_99 (lv_at hl 7 rfl) ?_
  refine lv_if_le (tgt := 120) hx hb dX12_spelt_101 (by decide) (fun _ => ?_) (fun cc => absurd (by decide) cc)
  refine lv_lload hx hb dX12_spelt_120 (lv_at hl 0 rfl) ?_
  exact W.lret (v := 6683990) hx hb hr (fun t ht hW => ⟨⟨6683990, (st, sl), rfl, ⟨rfl, rfl⟩, mB.of ht hP⟩, hS.F ht⟩) hS.2.2 dX12_spelt_122
set_option maxHeartbeats 4000000 in
set_option maxRecDepth 100000 in
theorem f_spelt11 (l : Launch) (dC : Nat → ClassId) (dI : Nat → Nat → Nat) (ar : Nat → Nat) (cy : Nat → ClassId) (sz : Nat) (hN : MN ar) (st : Nat → Nat → Int32) (sl : Nat → Nat → Int64) (hI : MI st) : Met l yX12_spelt wsX12_spelt ({ frames := 0, cells := 0, slots := 0, locals := 0 }) (va_Pc [.int 99, .int 111, .int 109, .int 101, .int 115, .int 0, .int 0] (mPre dC dI ar cy sz st sl)) (va_Ql (fun (r : Int64) (x : MT) => x = (st, sl) ∧ (r = 1899199)) (mB dC dI ar cy) (MA ar sz)) 0 0 (MA ar sz) := by
  refine Met.ofW (cc := cX12_spelt) (maxL := 9) (ret := (some .long)) (by decide) rfl ?_
  intro p9 e s m9 args below meth c9 s₁ B9 hml hv
  obtain ⟨rfl, hsz, hP, hK⟩ := hv
  have hx := B9.exec
  have hb := B9.bytes
  have hr := B9.returns
  have hts := atoms_spec (ws := wsX12_spelt) B9.pre
  have hown : s.vm.findClass RX12 = some m9.cls := findClass_of_methodNamed B9.named
  subst hsz
  have hS : va_S (MA ar s.heap.size) s.heap s.heap [] := va_S.rf
  have hG : MG [1, 2, 3, 4, 5, 6, 7, 8, 9, 10, 11, 12, 13, 14, 15, 16, 17, 19, 20, 21, 22, 23] st st := MG.rf hI
  have hl := lv_entry ([.int 99, .int 111, .int 109, .int 101, .int 115, .int 0, .int 0]) (n := 9) (Nat.le_of_ble_eq_true rfl)
  rw [lg_entry_eq]
  generalize (lg_sl ([.int 99, .int 111, .int 109, .int 101, .int 115, .int 0, .int 0]) ++ List.replicate (9 - (lg_sl ([.int 99, .int 111, .int 109, .int 101, .int 115, .int 0, .int 0])).length) Slot.unset).toArray = ls at hl ⊢
  have hl : lv_has ls 9 [(0, .int 99), (1, .int 111), (2, .int 109), (3, .int 101), (4, .int 115), (5, .int 0), (6, .int 0)] := hl
  clear hI
  refine lv_ldc2 (v := 27) hx hb hown (hts _ mm_X12_spelt_1) dX12_spelt_0 ?_
  refine lv_iload_n hx hb dX12_spelt_3 rfl (lv_at hl 0 rfl) ?_
  refine lv_i2l (v := 99) hx hb dX12_spelt_4 (by decide) ?_
  refine lv_ldc2 (v := 96) hx hb hown (hts _ mm_X12_spelt_2) dX12_spelt_5 ?_
  refine lv_lsub hx hb dX12_spelt_8 ?_
  refine zz_topl (v := 3) (by decide) ?_
  refine lv_lmul hx hb dX12_spelt_9 ?_
  refine zz_topl (v := 81) (by decide) ?_
  refine lv_iload_n hx hb dX12_spelt_10 rfl (lv_at hl 1 rfl) ?_
  refine lv_i2l (v := 111) hx hb dX12_spelt_11 (by decide) ?_
  refine lv_ladd hx hb dX12_spelt_12 ?_
  refine zz_topl (v := 192) (by decide) ?_
  refine lv_ldc2 (v := 96) hx hb hown (hts _ mm_X12_spelt_2) dX12_spelt_13 ?_
  refine lv_lsub hx hb dX12_spelt_16 ?_
  refine zz_topl (v := 96) (by decide) ?_
  refine lv_lstore (lv' := [(7, .long 96), (0, .int 99), (1, .int 111), (2, .int 109), (3, .int 101), (4, .int 115), (5, .int 0), (6, .int 0)]) hx hb dX12_spelt_17 hl (by decide) rfl (fun ls hl => ?_)
  refine lv_iload_n hx hb dX12_spelt_19 rfl (lv_at hl 3 rfl) ?_
  refine lv_if_le (tgt := 38) hx hb dX12_spelt_20 (by decide) (fun cc => absurd cc (by decide)) (fun _ => ?_)
  refine lv_ldc2 (v := 27) hx hb hown (hts _ mm_X12_spelt_1) dX12_spelt_23 ?_
  refine lv_lload hx hb dX12_spelt_26 (lv_at hl 0 rfl) ?_
  refine lv_lmul hx hb dX12_spelt_28 ?_
  refine zz_topl (v := 2592) (by decide) ?_
  refine lv_iload_n hx hb dX12_spelt_29 rfl (lv_at hl 3 rfl) ?_
  refine lv_i2l (v := 109) hx hb dX12_spelt_30 (by decide) ?_
  refine lv_ladd hx hb dX12_spelt_31 ?_
  refine zz_topl (v := 2701) (by decide) ?_
  refine lv_ldc2 (v := 96) hx hb hown (hts _ mm_X12_spelt_2) dX12_spelt_32 ?_
  refine lv_lsub hx hb dX12_spelt_35 ?_
  refine zz_topl (v := 2605) (by decide) ?_
  refine lv_lstore (lv' := [(7, .long 2605), (0, .int 99), (1, .int 111), (2, .int 109), (3, .int 101), (4, .int 115), (5, .int 0), (6, .int 0)]) hx hb dX12_spelt_36 hl (by decide) rfl (fun ls hl => ?_)
  refine lv_iload_n hx hb dX12_spelt_38 rfl (lv_at hl 4 rfl) ?_
  refine lv_if_le (tgt := 57) hx hb dX12_spelt_39 (by decide) (fun cc => absurd cc (by decide)) (fun _ => ?_)
  refine lv_ldc2 (v := 27) hx hb hown (hts _ mm_X12_spelt_1) dX12_spelt_42 ?_
  refine lv_lload hx hb dX12_spelt_45 (lv_at hl 0 rfl) ?_
  refine lv_lmul hx hb dX12_spelt_47 ?_
  refine zz_topl (v := 70335) (by decide) ?_
  refine lv_iload_n hx hb dX12_spelt_48 rfl (lv_at hl 4 rfl) ?_
  refine lv_i2l (v := 101) hx hb dX12_spelt_49 (by decide) ?_
  refine lv_ladd hx hb dX12_spelt_50 ?_
  refine zz_topl (v := 70436) (by decide) ?_
  refine lv_ldc2 (v := 96) hx hb hown (hts _ mm_X12_spelt_2) dX12_spelt_51 ?_
  refine lv_lsub hx hb dX12_spelt_54 ?_
  refine zz_topl (v := 70340) (by decide) ?_
  refine lv_lstore (lv' := [(7, .long 70340), (0, .int 99), (1, .int 111), (2, .int 109), (3, .int 101), (4, .int 115), (5, .int 0), (6, .int 0)]) hx hb dX12_spelt_55 hl (by decide) rfl (fun ls hl => ?_)
  refine lv_iload hx hb dX12_spelt_57 (lv_at hl 5 rfl) ?_
  refine lv_if_le (tgt := 78) hx hb dX12_spelt_59 (by decide) (fun cc => absurd cc (by decide)) (fun _ => ?_)
  refine lv_ldc2 (v := 27) hx hb hown (hts _ mm_X12_spelt_1) dX12_spelt_62 ?_
  refine lv_lload hx hb dX12_spelt_65 (lv_at hl 0 rfl) ?_
  refine lv_lmul hx hb dX12_spelt_67 ?_
  refine zz_topl (v := 1899180) (by decide) ?_
  refine lv_iload hx hb dX12_spelt_68 (lv_at hl 5 rfl) ?_
  refine lv_i2l (v := 115) hx hb dX12_spelt_70 (by decide) ?_
  refine lv_ladd hx hb dX12_spelt_71 ?_
  refine zz_topl (v := 1899295) (by decide) ?_
  refine lv_ldc2 (v := 96) hx hb hown (hts _ mm_X12_spelt_2) dX12_spelt_72 ?_
  refine lv_lsub hx hb dX12_spelt_75 ?_
  refine zz_topl (v := 1899199) (by decide) ?_
  refine lv_lstore (lv' := [(7, .long 1899199), (0, .int 99), (1, .int 111), (2, .int 109), (3, .int 101), (4, .int 115), (5, .int 0), (6, .int 0)]) hx hb dX12_spelt_76 hl (by decide) rfl (fun ls hl => ?_)
  refine lv_iload hx hb dX12_spelt_78 (lv_at hl 6 rfl) ?_
  refine lv_if_le (tgt := 99) hx hb dX12_spelt_80 (by decide) (fun _ => ?_) (fun cc => absurd (by decide) cc)
  refine lv_iload hx hb dX12_spelt_99 (lv_at hl 7 rfl) ?_
  refine lv_if_le (tgt := 120) hx hb dX12_spelt_101 (by decide) (fun _ => ?_) (fun cc => absurd (by decide) cc)
  refine lv_lload hx hb dX12_spelt_120 (lv_at hl 0 rfl) ?_
  exact W.lret (v := 1899199) hx hb hr (fun t ht hW => ⟨⟨1899199, (st, sl), rfl, ⟨rfl, rfl⟩, mB.of ht hP⟩, hS.F ht⟩) hS.2.2 dX12_spelt_122
set_option maxHeartbeats 4000000 in
set_option maxRecDepth 100000 in
theorem f_spelt12 (l : Launch) (dC : Nat → ClassId) (dI : Nat → Nat → Nat) (ar : Nat → Nat) (cy : Nat → ClassId) (sz : Nat) (hN : MN ar) (st : Nat → Nat → Int32) (sl : Nat → Nat → Int64) (hI : MI st) : Met l yX12_spelt wsX12_spelt ({ frames := 0, cells := 0, slots := 0, locals := 0 }) (va_Pc [.int 100, .int 97, .int 121, .int 0, .int 0, .int 0, .int 0] (mPre dC dI ar cy sz st sl)) (va_Ql (fun (r : Int64) (x : MT) => x = (st, sl) ∧ (r = 2968)) (mB dC dI ar cy) (MA ar sz)) 0 0 (MA ar sz) := by
  refine Met.ofW (cc := cX12_spelt) (maxL := 9) (ret := (some .long)) (by decide) rfl ?_
  intro p9 e s m9 args below meth c9 s₁ B9 hml hv
  obtain ⟨rfl, hsz, hP, hK⟩ := hv
  have hx := B9.exec
  have hb := B9.bytes
  have hr := B9.returns
  have hts := atoms_spec (ws := wsX12_spelt) B9.pre
  have hown : s.vm.findClass RX12 = some m9.cls := findClass_of_methodNamed B9.named
  subst hsz
  have hS : va_S (MA ar s.heap.size) s.heap s.heap [] := va_S.rf
  have hG : MG [1, 2, 3, 4, 5, 6, 7, 8, 9, 10, 11, 12, 13, 14, 15, 16, 17, 19, 20, 21, 22, 23] st st := MG.rf hI
  have hl := lv_entry ([.int 100, .int 97, .int 121, .int 0, .int 0, .int 0, .int 0]) (n := 9) (Nat.le_of_ble_eq_true rfl)
  rw [lg_entry_eq]
  generalize (lg_sl ([.int 100, .int 97, .int 121, .int 0, .int 0, .int 0, .int 0]) ++ List.replicate (9 - (lg_sl ([.int 100, .int 97, .int 121, .int 0, .int 0, .int 0, .int 0])).length) Slot.unset).toArray = ls at hl ⊢
  have hl : lv_has ls 9 [(0, .int 100), (1, .int 97), (2, .int 121), (3, .int 0), (4, .int 0), (5, .int 0), (6, .int 0)] := hl
  clear hI
  refine lv_ldc2 (v := 27) hx hb hown (hts _ mm_X12_spelt_1) dX12_spelt_0 ?_
  refine lv_iload_n hx hb dX12_spelt_3 rfl (lv_at hl 0 rfl) ?_
  refine lv_i2l (v := 100) hx hb dX12_spelt_4 (by decide) ?_
  refine lv_ldc2 (v := 96) hx hb hown (hts _ mm_X12_spelt_2) dX12_spelt_5 ?_
  refine lv_lsub hx hb dX12_spelt_8 ?_
  refine zz_topl (v := 4) (by decide) ?_
  refine lv_lmul hx hb dX12_spelt_9 ?_
  refine zz_topl (v := 108) (by decide) ?_
  refine lv_iload_n hx hb dX12_spelt_10 rfl (lv_at hl 1 rfl) ?_
  refine lv_i2l (v := 97) hx hb dX12_spelt_11 (by decide) ?_
  refine lv_ladd hx hb dX12_spelt_12 ?_
  refine zz_topl (v := 205) (by decide) ?_
  refine lv_ldc2 (v := 96) hx hb hown (hts _ mm_X12_spelt_2) dX12_spelt_13 ?_
  refine lv_lsub hx hb dX12_spelt_16 ?_
  refine zz_topl (v := 109) (by decide) ?_
  refine lv_lstore (lv' := [(7, .long 109), (0, .int 100), (1, .int 97), (2, .int 121), (3, .int 0), (4, .int 0), (5, .int 0), (6, .int 0)]) hx hb dX12_spelt_17 hl (by decide) rfl (fun ls hl => ?_)
  refine lv_iload_n hx hb dX12_spelt_19 rfl (lv_at hl 3 rfl) ?_
  refine lv_if_le (tgt := 38) hx hb dX12_spelt_20 (by decide) (fun cc => absurd cc (by decide)) (fun _ => ?_)
  refine lv_ldc2 (v := 27) hx hb hown (hts _ mm_X12_spelt_1) dX12_spelt_23 ?_
  refine lv_lload hx hb dX12_spelt_26 (lv_at hl 0 rfl) ?_
  refine lv_lmul hx hb dX12_spelt_28 ?_
  refine zz_topl (v := 2943) (by decide) ?_
  refine lv_iload_n hx hb dX12_spelt_29 rfl (lv_at hl 3 rfl) ?_
  refine lv_i2l (v := 121) hx hb dX12_spelt_30 (by decide) ?_
  refine lv_ladd hx hb dX12_spelt_31 ?_
  refine zz_topl (v := 3064) (by decide) ?_
  refine lv_ldc2 (v := 96) hx hb hown (hts _ mm_X12_spelt_2) dX12_spelt_32 ?_
  refine lv_lsub hx hb dX12_spelt_35 ?_
  refine zz_topl (v := 2968) (by decide) ?_
  refine lv_lstore (lv' := [(7, .long 2968), (0, .int 100), (1, .int 97), (2, .int 121), (3, .int 0), (4, .int 0), (5, .int 0), (6, .int 0)]) hx hb dX12_spelt_36 hl (by decide) rfl (fun ls hl => ?_)
  refine lv_iload_n hx hb dX12_spelt_38 rfl (lv_at hl 4 rfl) ?_
  refine lv_if_le (tgt := 57) hx hb dX12_spelt_39 (by decide) (fun _ => ?_) (fun cc => absurd (by decide) cc)
  refine lv_iload hx hb dX12_spelt_57 (lv_at hl 5 rfl) ?_
  refine lv_if_le (tgt := 78) hx hb dX12_spelt_59 (by decide) (fun _ => ?_) (fun cc => absurd (by decide) cc)
  refine lv_iload hx hb dX12_spelt_78 (lv_at hl 6 rfl) ?_
  refine lv_if_le (tgt := 99) hx hb dX12_spelt_80 (by decide) (fun _ => ?_) (fun cc => absurd (by decide) cc)
  refine lv_iload hx hb dX12_spelt_99 (lv_at hl 7 rfl) ?_
  refine lv_if_le (tgt := 120) hx hb dX12_spelt_101 (by decide) (fun _ => ?_) (fun cc => absurd (by decide) cc)
  refine lv_lload hx hb dX12_spelt_120 (lv_at hl 0 rfl) ?_
  exact W.lret (v := 2968) hx hb hr (fun t ht hW => ⟨⟨2968, (st, sl), rfl, ⟨rfl, rfl⟩, mB.of ht hP⟩, hS.F ht⟩) hS.2.2 dX12_spelt_122
set_option maxHeartbeats 4000000 in
set_option maxRecDepth 100000 in
theorem f_spelt13 (l : Launch) (dC : Nat → ClassId) (dI : Nat → Nat → Nat) (ar : Nat → Nat) (cy : Nat → ClassId) (sz : Nat) (hN : MN ar) (st : Nat → Nat → Int32) (sl : Nat → Nat → Int64) (hI : MI st) : Met l yX12_spelt wsX12_spelt ({ frames := 0, cells := 0, slots := 0, locals := 0 }) (va_Pc [.int 111, .int 114, .int 0, .int 0, .int 0, .int 0, .int 0] (mPre dC dI ar cy sz st sl)) (va_Ql (fun (r : Int64) (x : MT) => x = (st, sl) ∧ (r = 423)) (mB dC dI ar cy) (MA ar sz)) 0 0 (MA ar sz) := by
  refine Met.ofW (cc := cX12_spelt) (maxL := 9) (ret := (some .long)) (by decide) rfl ?_
  intro p9 e s m9 args below meth c9 s₁ B9 hml hv
  obtain ⟨rfl, hsz, hP, hK⟩ := hv
  have hx := B9.exec
  have hb := B9.bytes
  have hr := B9.returns
  have hts := atoms_spec (ws := wsX12_spelt) B9.pre
  have hown : s.vm.findClass RX12 = some m9.cls := findClass_of_methodNamed B9.named
  subst hsz
  have hS : va_S (MA ar s.heap.size) s.heap s.heap [] := va_S.rf
  have hG : MG [1, 2, 3, 4, 5, 6, 7, 8, 9, 10, 11, 12, 13, 14, 15, 16, 17, 19, 20, 21, 22, 23] st st := MG.rf hI
  have hl := lv_entry ([.int 111, .int 114, .int 0, .int 0, .int 0, .int 0, .int 0]) (n := 9) (Nat.le_of_ble_eq_true rfl)
  rw [lg_entry_eq]
  generalize (lg_sl ([.int 111, .int 114, .int 0, .int 0, .int 0, .int 0, .int 0]) ++ List.replicate (9 - (lg_sl ([.int 111, .int 114, .int 0, .int 0, .int 0, .int 0, .int 0])).length) Slot.unset).toArray = ls at hl ⊢
  have hl : lv_has ls 9 [(0, .int 111), (1, .int 114), (2, .int 0), (3, .int 0), (4, .int 0), (5, .int 0), (6, .int 0)] := hl
  clear hI
  refine lv_ldc2 (v := 27) hx hb hown (hts _ mm_X12_spelt_1) dX12_spelt_0 ?_
  refine lv_iload_n hx hb dX12_spelt_3 rfl (lv_at hl 0 rfl) ?_
  refine lv_i2l (v := 111) hx hb dX12_spelt_4 (by decide) ?_
  refine lv_ldc2 (v := 96) hx hb hown (hts _ mm_X12_spelt_2) dX12_spelt_5 ?_
  refine lv_lsub hx hb dX12_spelt_8 ?_
  refine zz_topl (v := 15) (by decide) ?_
  refine lv_lmul hx hb dX12_spelt_9 ?_
  refine zz_topl (v := 405) (by decide) ?_
  refine lv_iload_n hx hb dX12_spelt_10 rfl (lv_at hl 1 rfl) ?_
  refine lv_i2l (v := 114) hx hb dX12_spelt_11 (by decide) ?_
  refine lv_ladd hx hb dX12_spelt_12 ?_
  refine zz_topl (v := 519) (by decide) ?_
  refine lv_ldc2 (v := 96) hx hb hown (hts _ mm_X12_spelt_2) dX12_spelt_13 ?_
  refine lv_lsub hx hb dX12_spelt_16 ?_
  refine zz_topl (v := 423) (by decide) ?_
  refine lv_lstore (lv' := [(7, .long 423), (0, .int 111), (1, .int 114), (2, .int 0), (3, .int 0), (4, .int 0), (5, .int 0), (6, .int 0)]) hx hb dX12_spelt_17 hl (by decide) rfl (fun ls hl => ?_)
  refine lv_iload_n hx hb dX12_spelt_19 rfl (lv_at hl 3 rfl) ?_
  refine lv_if_le (tgt := 38) hx hb dX12_spelt_20 (by decide) (fun _ => ?_) (fun cc => absurd (by decide) cc)
  refine lv_iload_n hx hb dX12_spelt_38 rfl (lv_at hl 4 rfl) ?_
  refine lv_if_le (tgt := 57) hx hb dX12_spelt_39 (by decide) (fun _ => ?_) (fun cc => absurd (by decide) cc)
  refine lv_iload hx hb dX12_spelt_57 (lv_at hl 5 rfl) ?_
  refine lv_if_le (tgt := 78) hx hb dX12_spelt_59 (by decide) (fun _ => ?_) (fun cc => absurd (by decide) cc)
  refine lv_iload hx hb dX12_spelt_78 (lv_at hl 6 rfl) ?_
  refine lv_if_le (tgt := 99) hx hb dX12_spelt_80 (by decide) (fun _ => ?_) (fun cc => absurd (by decide) cc)
  refine lv_iload hx hb dX12_spelt_99 (lv_at hl 7 rfl) ?_
  refine lv_if_le (tgt := 120) hx hb dX12_spelt_101 (by decide) (fun _ => ?_) (fun cc => absurd (by decide) cc)
  refine lv_lload hx hb dX12_spelt_120 (lv_at hl 0 rfl) ?_
  exact W.lret (v := 423) hx hb hr (fun t ht hW => ⟨⟨423, (st, sl), rfl, ⟨rfl, rfl⟩, mB.of ht hP⟩, hS.F ht⟩) hS.2.2 dX12_spelt_122
set_option maxHeartbeats 4000000 in
set_option maxRecDepth 100000 in
theorem f_spelt14 (l : Launch) (dC : Nat → ClassId) (dI : Nat → Nat → Nat) (ar : Nat → Nat) (cy : Nat → ClassId) (sz : Nat) (hN : MN ar) (st : Nat → Nat → Int32) (sl : Nat → Nat → Int64) (hI : MI st) : Met l yX12_spelt wsX12_spelt ({ frames := 0, cells := 0, slots := 0, locals := 0 }) (va_Pc [.int 97, .int 110, .int 100, .int 0, .int 0, .int 0, .int 0] (mPre dC dI ar cy sz st sl)) (va_Ql (fun (r : Int64) (x : MT) => x = (st, sl) ∧ (r = 1111)) (mB dC dI ar cy) (MA ar sz)) 0 0 (MA ar sz) := by
  refine Met.ofW (cc := cX12_spelt) (maxL := 9) (ret := (some .long)) (by decide) rfl ?_
  intro p9 e s m9 args below meth c9 s₁ B9 hml hv
  obtain ⟨rfl, hsz, hP, hK⟩ := hv
  have hx := B9.exec
  have hb := B9.bytes
  have hr := B9.returns
  have hts := atoms_spec (ws := wsX12_spelt) B9.pre
  have hown : s.vm.findClass RX12 = some m9.cls := findClass_of_methodNamed B9.named
  subst hsz
  have hS : va_S (MA ar s.heap.size) s.heap s.heap [] := va_S.rf
  have hG : MG [1, 2, 3, 4, 5, 6, 7, 8, 9, 10, 11, 12, 13, 14, 15, 16, 17, 19, 20, 21, 22, 23] st st := MG.rf hI
  have hl := lv_entry ([.int 97, .int 110, .int 100, .int 0, .int 0, .int 0, .int 0]) (n := 9) (Nat.le_of_ble_eq_true rfl)
  rw [lg_entry_eq]
  generalize (lg_sl ([.int 97, .int 110, .int 100, .int 0, .int 0, .int 0, .int 0]) ++ List.replicate (9 - (lg_sl ([.int 97, .int 110, .int 100, .int 0, .int 0, .int 0, .int 0])).length) Slot.unset).toArray = ls at hl ⊢
  have hl : lv_has ls 9 [(0, .int 97), (1, .int 110), (2, .int 100), (3, .int 0), (4, .int 0), (5, .int 0), (6, .int 0)] := hl
  clear hI
  refine lv_ldc2 (v := 27) hx hb hown (hts _ mm_X12_spelt_1) dX12_spelt_0 ?_
  refine lv_iload_n hx hb dX12_spelt_3 rfl (lv_at hl 0 rfl) ?_
  refine lv_i2l (v := 97) hx hb dX12_spelt_4 (by decide) ?_
  refine lv_ldc2 (v := 96) hx hb hown (hts _ mm_X12_spelt_2) dX12_spelt_5 ?_
  refine lv_lsub hx hb dX12_spelt_8 ?_
  refine zz_topl (v := 1) (by decide) ?_
  refine lv_lmul hx hb dX12_spelt_9 ?_
  refine zz_topl (v := 27) (by decide) ?_
  refine lv_iload_n hx hb dX12_spelt_10 rfl (lv_at hl 1 rfl) ?_
  refine lv_i2l (v := 110) hx hb dX12_spelt_11 (by decide) ?_
  refine lv_ladd hx hb dX12_spelt_12 ?_
  refine zz_topl (v := 137) (by decide) ?_
  refine lv_ldc2 (v := 96) hx hb hown (hts _ mm_X12_spelt_2) dX12_spelt_13 ?_
  refine lv_lsub hx hb dX12_spelt_16 ?_
  refine zz_topl (v := 41) (by decide) ?_
  refine lv_lstore (lv' := [(7, .long 41), (0, .int 97), (1, .int 110), (2, .int 100), (3, .int 0), (4, .int 0), (5, .int 0), (6, .int 0)]) hx hb dX12_spelt_17 hl (by decide) rfl (fun ls hl => ?_)
  refine lv_iload_n hx hb dX12_spelt_19 rfl (lv_at hl 3 rfl) ?_
  refine lv_if_le (tgt := 38) hx hb dX12_spelt_20 (by decide) (fun cc => absurd cc (by decide)) (fun _ => ?_)
  refine lv_ldc2 (v := 27) hx hb hown (hts _ mm_X12_spelt_1) dX12_spelt_23 ?_
  refine lv_lload hx hb dX12_spelt_26 (lv_at hl 0 rfl) ?_
  refine lv_lmul hx hb dX12_spelt_28 ?_
  refine zz_topl (v := 1107) (by decide) ?_
  refine lv_iload_n hx hb dX12_spelt_29 rfl (lv_at hl 3 rfl) ?_
  refine lv_i2l (v := 100) hx hb dX12_spelt_30 (by decide) ?_
  refine lv_ladd hx hb dX12_spelt_31 ?_
  refine zz_topl (v := 1207) (by decide) ?_
  refine lv_ldc2 (v := 96) hx hb hown (hts _ mm_X12_spelt_2) dX12_spelt_32 ?_
  refine lv_lsub hx hb dX12_spelt_35 ?_
  refine zz_topl (v := 1111) (by decide) ?_
  refine lv_lstore (lv' := [(7, .long 1111), (0, .int 97), (1, .int 110), (2, .int 100), (3, .int 0), (4, .int 0), (5, .int 0), (6, .int 0)]) hx hb dX12_spelt_36 hl (by decide) rfl (fun ls hl => ?_)
  refine lv_iload_n hx hb dX12_spelt_38 rfl (lv_at hl 4 rfl) ?_
  refine lv_if_le (tgt := 57) hx hb dX12_spelt_39 (by decide) (fun _ => ?_) (fun cc => absurd (by decide) cc)
  refine lv_iload hx hb dX12_spelt_57 (lv_at hl 5 rfl) ?_
  refine lv_if_le (tgt := 78) hx hb dX12_spelt_59 (by decide) (fun _ => ?_) (fun cc => absurd (by decide) cc)
  refine lv_iload hx hb dX12_spelt_78 (lv_at hl 6 rfl) ?_
  refine lv_if_le (tgt := 99) hx hb dX12_spelt_80 (by decide) (fun _ => ?_) (fun cc => absurd (by decide) cc)
  refine lv_iload hx hb dX12_spelt_99 (lv_at hl 7 rfl) ?_
  refine lv_if_le (tgt := 120) hx hb dX12_spelt_101 (by decide) (fun _ => ?_) (fun cc => absurd (by decide) cc)
  refine lv_lload hx hb dX12_spelt_120 (lv_at hl 0 rfl) ?_
  exact W.lret (v := 1111) hx hb hr (fun t ht hW => ⟨⟨1111, (st, sl), rfl, ⟨rfl, rfl⟩, mB.of ht hP⟩, hS.F ht⟩) hS.2.2 dX12_spelt_122
set_option maxHeartbeats 4000000 in
set_option maxRecDepth 100000 in
theorem f_spelt15 (l : Launch) (dC : Nat → ClassId) (dI : Nat → Nat → Nat) (ar : Nat → Nat) (cy : Nat → ClassId) (sz : Nat) (hN : MN ar) (st : Nat → Nat → Int32) (sl : Nat → Nat → Int64) (hI : MI st) : Met l yX12_spelt wsX12_spelt ({ frames := 0, cells := 0, slots := 0, locals := 0 }) (va_Pc [.int 110, .int 111, .int 116, .int 0, .int 0, .int 0, .int 0] (mPre dC dI ar cy sz st sl)) (va_Ql (fun (r : Int64) (x : MT) => x = (st, sl) ∧ (r = 10631)) (mB dC dI ar cy) (MA ar sz)) 0 0 (MA ar sz) := by
  refine Met.ofW (cc := cX12_spelt) (maxL := 9) (ret := (some .long)) (by decide) rfl ?_
  intro p9 e s m9 args below meth c9 s₁ B9 hml hv
  obtain ⟨rfl, hsz, hP, hK⟩ := hv
  have hx := B9.exec
  have hb := B9.bytes
  have hr := B9.returns
  have hts := atoms_spec (ws := wsX12_spelt) B9.pre
  have hown : s.vm.findClass RX12 = some m9.cls := findClass_of_methodNamed B9.named
  subst hsz
  have hS : va_S (MA ar s.heap.size) s.heap s.heap [] := va_S.rf
  have hG : MG [1, 2, 3, 4, 5, 6, 7, 8, 9, 10, 11, 12, 13, 14, 15, 16, 17, 19, 20, 21, 22, 23] st st := MG.rf hI
  have hl := lv_entry ([.int 110, .int 111, .int 116, .int 0, .int 0, .int 0, .int 0]) (n := 9) (Nat.le_of_ble_eq_true rfl)
  rw [lg_entry_eq]
  generalize (lg_sl ([.int 110, .int 111, .int 116, .int 0, .int 0, .int 0, .int 0]) ++ List.replicate (9 - (lg_sl ([.int 110, .int 111, .int 116, .int 0, .int 0, .int 0, .int 0])).length) Slot.unset).toArray = ls at hl ⊢
  have hl : lv_has ls 9 [(0, .int 110), (1, .int 111), (2, .int 116), (3, .int 0), (4, .int 0), (5, .int 0), (6, .int 0)] := hl
  clear hI
  refine lv_ldc2 (v := 27) hx hb hown (hts _ mm_X12_spelt_1) dX12_spelt_0 ?_
  refine lv_iload_n hx hb dX12_spelt_3 rfl (lv_at hl 0 rfl) ?_
  refine lv_i2l (v := 110) hx hb dX12_spelt_4 (by decide) ?_
  refine lv_ldc2 (v := 96) hx hb hown (hts _ mm_X12_spelt_2) dX12_spelt_5 ?_
  refine lv_lsub hx hb dX12_spelt_8 ?_
  refine zz_topl (v := 14) (by decide) ?_
  refine lv_lmul hx hb dX12_spelt_9 ?_
  refine zz_topl (v := 378) (by decide) ?_
  refine lv_iload_n hx hb dX12_spelt_10 rfl (lv_at hl 1 rfl) ?_
  refine lv_i2l (v := 111) hx hb dX12_spelt_11 (by decide) ?_
  refine lv_ladd hx hb dX12_spelt_12 ?_
  refine zz_topl (v := 489) (by decide) ?_
  refine lv_ldc2 (v := 96) hx hb hown (hts _ mm_X12_spelt_2) dX12_spelt_13 ?_
  refine lv_lsub hx hb dX12_spelt_16 ?_
  refine zz_topl (v := 393) (by decide) ?_
  refine lv_lstore (lv' := [(7, .long 393), (0, .int 110), (1, .int 111), (2, .int 116), (3, .int 0), (4, .int 0), (5, .int 0), (6, .int 0)]) hx hb dX12_spelt_17 hl (by decide) rfl (fun ls hl => ?_)
  refine lv_iload_n hx hb dX12_spelt_19 rfl (lv_at hl 3 rfl) ?_
  refine lv_if_le (tgt := 38) hx hb dX12_spelt_20 (by decide) (fun cc => absurd cc (by decide)) (fun _ => ?_)
  refine lv_ldc2 (v := 27) hx hb hown (hts _ mm_X12_spelt_1) dX12_spelt_23 ?_
  refine lv_lload hx hb dX12_spelt_26 (lv_at hl 0 rfl) ?_
  refine lv_lmul hx hb dX12_spelt_28 ?_
  refine zz_topl (v := 10611) (by decide) ?_
  refine lv_iload_n hx hb dX12_spelt_29 rfl (lv_at hl 3 rfl) ?_
  refine lv_i2l (v := 116) hx hb dX12_spelt_30 (by decide) ?_
  refine lv_ladd hx hb dX12_spelt_31 ?_
  refine zz_topl (v := 10727) (by decide) ?_
  refine lv_ldc2 (v := 96) hx hb hown (hts _ mm_X12_spelt_2) dX12_spelt_32 ?_
  refine lv_lsub hx hb dX12_spelt_35 ?_
  refine zz_topl (v := 10631) (by decide) ?_
  refine lv_lstore (lv' := [(7, .long 10631), (0, .int 110), (1, .int 111), (2, .int 116), (3, .int 0), (4, .int 0), (5, .int 0), (6, .int 0)]) hx hb dX12_spelt_36 hl (by decide) rfl (fun ls hl => ?_)
  refine lv_iload_n hx hb dX12_spelt_38 rfl (lv_at hl 4 rfl) ?_
  refine lv_if_le (tgt := 57) hx hb dX12_spelt_39 (by decide) (fun _ => ?_) (fun cc => absurd (by decide) cc)
  refine lv_iload hx hb dX12_spelt_57 (lv_at hl 5 rfl) ?_
  refine lv_if_le (tgt := 78) hx hb dX12_spelt_59 (by decide) (fun _ => ?_) (fun cc => absurd (by decide) cc)
  refine lv_iload hx hb dX12_spelt_78 (lv_at hl 6 rfl) ?_
  refine lv_if_le (tgt := 99) hx hb dX12_spelt_80 (by decide) (fun _ => ?_) (fun cc => absurd (by decide) cc)
  refine lv_iload hx hb dX12_spelt_99 (lv_at hl 7 rfl) ?_
  refine lv_if_le (tgt := 120) hx hb dX12_spelt_101 (by decide) (fun _ => ?_) (fun cc => absurd (by decide) cc)
  refine lv_lload hx hb dX12_spelt_120 (lv_at hl 0 rfl) ?_
  exact W.lret (v := 10631) hx hb hr (fun t ht hW => ⟨⟨10631, (st, sl), rfl, ⟨rfl, rfl⟩, mB.of ht hP⟩, hS.F ht⟩) hS.2.2 dX12_spelt_122
