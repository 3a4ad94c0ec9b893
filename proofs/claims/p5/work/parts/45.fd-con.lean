set_option maxHeartbeats 4000000 in
set_option maxRecDepth 100000 in
theorem f_spelt16 (l : Launch) (dC : Nat → ClassId) (dI : Nat → Nat → Nat) (ar : Nat → Nat) (cy : Nat → ClassId) (sz : Nat) (hN : MN ar) (st : Nat → Nat → Int32) (sl : Nat → Nat → Int64) (hI : MI st) : Met l yX12_spelt wsX12_spelt ({ frames := 0, cells := 0, slots := 0, locals := 0 }) (va_Pc [.int 97, .int 119, .int 97, .int 121, .int 0, .int 0, .int 0] (mPre dC dI ar cy sz st sl)) (va_Ql (fun (r : Int64) (x : MT) => x = (st, sl) ∧ (r = 36502)) (mB dC dI ar cy) (MA ar sz)) 0 0 (MA ar sz) := by
  refine Met.ofW (cc := cX12_spelt) (maxL := 9) (ret := (some .long)) (by decide) rfl ?_
  intro p9 e s m9 args below meth c9 s₁ B9 hml hv
  obtain ⟨rfl, hsz, hP, hK⟩ := hv
  have hx := B9.exec
  have hb := B9.bytes
  have hr := B9.returns
  have hts := atoms_spec (ws := wsX12_spelt) B9.pre
  have hown : s.vm.findClass RX12 = some m9.cls := findClass_of_methodNamed B9.named
  subst hsz
  have hS : va_S (MA ar s.heap.size) s.heap s.heap [] := va_S.rf
  have hG : MG [1, 2, 3, 4, 5, 6, 7, 8, 9, 10, 11, 12, 13, 14, 15, 16, 17, 19, 20, 21, 22, 23] st st := MG.rf hI
  have hl := lv_entry ([.int 97, .int 119, .int 97, .int 121, .int 0, .int 0, .int 0]) (n := 9) (Nat.le_of_ble_eq_true rfl)
  rw [lg_entry_eq]
  generalize (lg_sl ([.int 97, .int 119, .int 97, .int 121, .int 0, .int 0, .int 0]) ++ List.replicate (9 - (lg_sl ([.int 97, .int 119, .int 97, .int 121, .int 0, .int 0, .int 0])).length) Slot.unset).toArray = ls at hl ⊢
  have hl : lv_has ls 9 [(0, .int 97), (1, .int 119), (2, .int 97), (3, .int 121), (4, .int 0), (5, .int 0), (6, .int 0)] := hl
  clear hI
  refine lv_ldc2 (v := 27) hx hb hown (hts _ mm_X12_spelt_1) dX12_spelt_0 ?_
  refine lv_iload_n hx hb dX12_spelt_3 rfl (lv_at hl 0 rfl) ?_
  refine lv_i2l (v := 97) hx hb dX12_spelt_4 (by decide) ?_
  refine lv_ldc2 (v := 96) hx hb hown (hts _ mm_X12_spelt_2) dX12_spelt_5 ?_
  refine lv_lsub hx hb dX12_spelt_8 ?_
  refine zz_topl (v := 1) (by decide) ?_
  refine lv_lmul hx hb dX12_spelt_9 ?_
  refine zz_topl (v := 27) (by decide) ?_
  refine lv_iload_n hx hb dX12_spelt_10 rfl (lv_at hl 1 rfl) ?_
  refine lv_i2l (v := 119) hx hb dX12_spelt_11 (by decide) ?_
  refine lv_ladd hx hb dX12_spelt_12 ?_
  refine zz_topl (v := 146) (by decide) ?_
  refine lv_ldc2 (v := 96) hx hb hown (hts _ mm_X12_spelt_2) dX12_spelt_13 ?_
  refine lv_lsub hx hb dX12_spelt_16 ?_
  refine zz_topl (v := 50) (by decide) ?_
  refine lv_lstore (lv' := [(7, .long 50), (0, .int 97), (1, .int 119), (2, .int 97), (3, .int 121), (4, .int 0), (5, .int 0), (6, .int 0)]) hx hb dX12_spelt_17 hl (by decide) rfl (fun ls hl => ?_)
  refine lv_iload_n hx hb dX12_spelt_19 rfl (lv_at hl 3 rfl) ?_
  refine lv_if_le (tgt := 38) hx hb dX12_spelt_20 (by decide) (fun cc => absurd cc (by decide)) (fun _ => ?_)
  refine lv_ldc2 (v := 27) hx hb hown (hts _ mm_X12_spelt_1) dX12_spelt_23 ?_
  refine lv_lload hx hb dX12_spelt_26 (lv_at hl 0 rfl) ?_
  refine lv_lmul hx hb dX12_spelt_28 ?_
  refine zz_topl (v := 1350) (by decide) ?_
  refine lv_iload_n hx hb dX12_spelt_29 rfl (lv_at hl 3 rfl) ?_
  refine lv_i2l (v := 97) hx hb dX12_spelt_30 (by decide) ?_
  refine lv_ladd hx hb dX12_spelt_31 ?_
  refine zz_topl (v := 1447) (by decide) ?_
  refine lv_ldc2 (v := 96) hx hb hown (hts _ mm_X12_spelt_2) dX12_spelt_32 ?_
  refine lv_lsub hx hb dX12_spelt_35 ?_
  refine zz_topl (v := 1351) (by decide) ?_
  refine lv_lstore (lv' := [(7, .long 1351), (0, .int 97), (1, .int 119), (2, .int 97), (3, .int 121), (4, .int 0), (5, .int 0), (6, .int 0)]) hx hb dX12_spelt_36 hl (by decide) rfl (fun ls hl => ?_)
  refine lv_iload_n hx hb dX12_spelt_38 rfl (lv_at hl 4 rfl) ?_
  refine lv_if_le (tgt := 57) hx hb dX12_spelt_39 (by decide) (fun cc => absurd cc (by decide)) (fun _ => ?_)
  refine lv_ldc2 (v := 27) hx hb hown (hts _ mm_X12_spelt_1) dX12_spelt_42 ?_
  refine lv_lload hx hb dX12_spelt_45 (lv_at hl 0 rfl) ?_
  refine lv_lmul hx hb dX12_spelt_47 ?_
  refine zz_topl (v := 36477) (by decide) ?_
  refine lv_iload_n hx hb dX12_spelt_48 rfl (lv_at hl 4 rfl) ?_
  refine lv_i2l (v := 121) hx hb dX12_spelt_49 (by decide) ?_
  refine lv_ladd hx hb dX12_spelt_50 ?_
  refine zz_topl (v := 36598) (by decide) ?_
  refine lv_ldc2 (v := 96) hx hb hown (hts _ mm_X12_spelt_2) dX12_spelt_51 ?_
  refine lv_lsub hx hb dX12_spelt_54 ?_
  refine zz_topl (v := 36502) (by decide) ?_
  refine lv_lstore (lv' := [(7, .long 36502), (0, .int 97), (1, .int 119), (2, .int 97), (3, .int 121), (4, .int 0), (5, .int 0), (6, .int 0)]) hx hb dX12_spelt_55 hl (by decide) rfl (fun ls hl => ?_)
  refine lv_iload hx hb dX12_spelt_57 (lv_at hl 5 rfl) ?_
  refine lv_if_le (tgt := 78) hx hb dX12_spelt_59 (by decide) (fun _ => ?_) (fun cc => absurd (by decide) cc)
  refine lv_iload hx hb dX12_spelt_78 (lv_at hl 6 rfl) ?_
  refine lv_if_le (tgt := 99) hx hb dX12_spelt_80 (by decide) (fun _ => ?_) (fun cc => absurd (by decide) cc)
  refine lv_iload hx hb dX12_spelt_99 (lv_at hl 7 rfl) ?_
  refine lv_if_le (tgt := 120) hx hb dX12_spelt_101 (by decide) (fun _ => ?_) (fun cc => absurd (by decide) cc)
  refine lv_lload hx hb dX12_spelt_120 (lv_at hl 0 rfl) ?_
  exact W.lret (v := 36502) hx hb hr (fun t ht hW => ⟨⟨36502, (st, sl), rfl, ⟨rfl, rfl⟩, mB.of ht hP⟩, hS.F ht⟩) hS.2.2 dX12_spelt_122
set_option maxHeartbeats 4000000 in
set_option maxRecDepth 100000 in
theorem f_spelt17 (l : Launch) (dC : Nat → ClassId) (dI : Nat → Nat → Nat) (ar : Nat → Nat) (cy : Nat → ClassId) (sz : Nat) (hN : MN ar) (st : Nat → Nat → Int32) (sl : Nat → Nat → Int64) (hI : MI st) : Met l yX12_spelt wsX12_spelt ({ frames := 0, cells := 0, slots := 0, locals := 0 }) (va_Pc [.int 111, .int 119, .int 110, .int 101, .int 114, .int 0, .int 0] (mPre dC dI ar cy sz st sl)) (va_Ql (fun (r : Int64) (x : MT) => x = (st, sl) ∧ (r = 8434683)) (mB dC dI ar cy) (MA ar sz)) 0 0 (MA ar sz) := by
  refine Met.ofW (cc := cX12_spelt) (maxL := 9) (ret := (some .long)) (by decide) rfl ?_
  intro p9 e s m9 args below meth c9 s₁ B9 hml hv
  obtain ⟨rfl, hsz, hP, hK⟩ := hv
  have hx := B9.exec
  have hb := B9.bytes
  have hr := B9.returns
  have hts := atoms_spec (ws := wsX12_spelt) B9.pre
  have hown : s.vm.findClass RX12 = some m9.cls := findClass_of_methodNamed B9.named
  subst hsz
  have hS : va_S (MA ar s.heap.size) s.heap s.heap [] := va_S.rf
  have hG : MG [1, 2, 3, 4, 5, 6, 7, 8, 9, 10, 11, 12, 13, 14, 15, 16, 17, 19, 20, 21, 22, 23] st st := MG.rf hI
  have hl := lv_entry ([.int 111, .int 119, .int 110, .int 101, .int 114, .int 0, .int 0]) (n := 9) (Nat.le_of_ble_eq_true rfl)
  rw [lg_entry_eq]
  generalize (lg_sl ([.int 111, .int 119, .int 110, .int 101, .int 114, .int 0, .int 0]) ++ List.replicate (9 - (lg_sl ([.int 111, .int 119, .int 110, .int 101, .int 114, .int 0, .int 0])).length) Slot.unset).toArray = ls at hl ⊢
  have hl : lv_has ls 9 [(0, .int 111), (1, .int 119), (2, .int 110), (3, .int 101), (4, .int 114), (5, .int 0), (6, .int 0)] := hl
  clear hI
  refine lv_ldc2 (v := 27) hx hb hown (hts _ mm_X12_spelt_1) dX12_spelt_0 ?_
  refine lv_iload_n hx hb dX12_spelt_3 rfl (lv_at hl 0 rfl) ?_
  refine lv_i2l (v := 111) hx hb dX12_spelt_4 (by decide) ?_
  refine lv_ldc2 (v := 96) hx hb hown (hts _ mm_X12_spelt_2) dX12_spelt_5 ?_
  refine lv_lsub hx hb dX12_spelt_8 ?_
  refine zz_topl (v := 15) (by decide) ?_
  refine lv_lmul hx hb dX12_spelt_9 ?_
  refine zz_topl (v := 405) (by decide) ?_
  refine lv_iload_n hx hb dX12_spelt_10 rfl (lv_at hl 1 rfl) ?_
  refine lv_i2l (v := 119) hx hb dX12_spelt_11 (by decide) ?_
  refine lv_ladd hx hb dX12_spelt_12 ?_
  refine zz_topl (v := 524) (by decide) ?_
  refine lv_ldc2 (v := 96) hx hb hown (hts _ mm_X12_spelt_2) dX12_spelt_13 ?_
  refine lv_lsub hx hb dX12_spelt_16 ?_
  refine zz_topl (v := 428) (by decide) ?_
  refine lv_lstore (lv' := [(7, .long 428), (0, .int 111), (1, .int 119), (2, .int 110), (3, .int 101), (4, .int 114), (5, .int 0), (6, .int 0)]) hx hb dX12_spelt_17 hl (by decide) rfl (fun ls hl => ?_)
  refine lv_iload_n hx hb dX12_spelt_19 rfl (lv_at hl 3 rfl) ?_
  refine lv_if_le (tgt := 38) hx hb dX12_spelt_20 (by decide) (fun cc => absurd cc (by decide)) (fun _ => ?_)
  refine lv_ldc2 (v := 27) hx hb hown (hts _ mm_X12_spelt_1) dX12_spelt_23 ?_
  refine lv_lload hx hb dX12_spelt_26 (lv_at hl 0 rfl) ?_
  refine lv_lmul hx hb dX12_spelt_28 ?_
  refine zz_topl (v := 11556) (by decide) ?_
  refine lv_iload_n hx hb dX12_spelt_29 rfl (lv_at hl 3 rfl) ?_
  refine lv_i2l (v := 110) hx hb dX12_spelt_30 (by decide) ?_
  refine lv_ladd hx hb dX12_spelt_31 ?_
  refine zz_topl (v := 11666) (by decide) ?_
  refine lv_ldc2 (v := 96) hx hb hown (hts _ mm_X12_spelt_2) dX12_spelt_32 ?_
  refine lv_lsub hx hb dX12_spelt_35 ?_
  refine zz_topl (v := 11570) (by decide) ?_
  refine lv_lstore (lv' := [(7, .long 11570), (0, .int 111), (1, .int 119), (2, .int 110), (3, .int 101), (4, .int 114), (5, .int 0), (6, .int 0)]) hx hb dX12_spelt_36 hl (by decide) rfl (fun ls hl => ?_)
  refine lv_iload_n hx hb dX12_spelt_38 rfl (lv_at hl 4 rfl) ?_
  refine lv_if_le (tgt := 57) hx hb dX12_spelt_39 (by decide) (fun cc => absurd cc (by decide)) (fun _ => ?_)
  refine lv_ldc2 (v := 27) hx hb hown (hts _ mm_X12_spelt_1) dX12_spelt_42 ?_
  refine lv_lload hx hb dX12_spelt_45 (lv_at hl 0 rfl) ?_
  refine lv_lmul hx hb dX12_spelt_47 ?_
  refine zz_topl (v := 312390) (by decide) ?_
  refine lv_iload_n hx hb dX12_spelt_48 rfl (lv_at hl 4 rfl) ?_
  refine lv_i2l (v := 101) hx hb dX12_spelt_49 (by decide) ?_
  refine lv_ladd hx hb dX12_spelt_50 ?_
  refine zz_topl (v := 312491) (by decide) ?_
  refine lv_ldc2 (v := 96) hx hb hown (hts _ mm_X12_spelt_2) dX12_spelt_51 ?_
  refine lv_lsub hx hb dX12_spelt_54 ?_
  refine zz_topl (v := 312395) (by decide) ?_
  refine lv_lstore (lv' := [(7, .long 312395), (0, .int 111), (1, .int 119), (2, .int 110), (3, .int 101), (4, .int 114), (5, .int 0), (6, .int 0)]) hx hb dX12_spelt_55 hl (by decide) rfl (fun ls hl => ?_)
  refine lv_iload hx hb dX12_spelt_57 (lv_at hl 5 rfl) ?_
  refine lv_if_le (tgt := 78) hx hb dX12_spelt_59 (by decide) (fun cc => absurd cc (by decide)) (fun _ => ?_)
  refine lv_ldc2 (v := 27) hx hb hown (hts _ mm_X12_spelt_1) dX12_spelt_62 ?_
  refine lv_lload hx hb dX12_spelt_65 (lv_at hl 0 rfl) ?_
  refine lv_lmul hx hb dX12_spelt_67 ?_
  refine zz_topl (v := 8434665) (by decide) ?_
  refine lv_iload hx hb dX12_spelt_68 (lv_at hl 5 rfl) ?_
  refine lv_i2l (v := 114) hx hb dX12_spelt_70 (by decide) ?_
  refine lv_ladd hx hb dX12_spelt_71 ?_
  refine zz_topl (v := 8434779) (by decide) ?_
  refine lv_ldc2 (v := 96) hx hb hown (hts _ mm_X12_spelt_2) dX12_spelt_72 ?_
  refine lv_lsub hx hb dX12_spelt_75 ?_
  refine zz_topl (v := 8434683) (by decide) ?_
  refine lv_lstore (lv' := [(7, .long 8434683), (0, .int 111), (1, .int 119), (2, .int 110), (3, .int 101), (4, .int 114), (5, .int 0), (6, .int 0)]) hx hb dX12_spelt_76 hl (by decide) rfl (fun ls hl => ?_)
  refine lv_iload hx hb dX12_spelt_78 (lv_at hl 6 rfl) ?_
  refine lv_if_le (tgt := 99) hx hb dX12_spelt_80 (by decide) (fun _ => ?_) (fun cc => absurd (by decide) cc)
  refine lv_iload hx hb dX12_spelt_99 (lv_at hl 7 rfl) ?_
  refine lv_if_le (tgt := 120) hx hb dX12_spelt_101 (by decide) (fun _ => ?_) (fun cc => absurd (by decide) cc)
  refine lv_lload hx hb dX12_spelt_120 (lv_at hl 0 rfl) ?_
  exact W.lret (v := 8434683) hx hb hr (fun t ht hW => ⟨⟨8434683, (st, sl), rfl, ⟨rfl, rfl⟩, mB.of ht hP⟩, hS.F ht⟩) hS.2.2 dX12_spelt_122
set_option maxHeartbeats 4000000 in
set_option maxRecDepth 100000 in
theorem f_spelt18 (l : Launch) (dC : Nat → ClassId) (dI : Nat → Nat → Nat) (ar : Nat → Nat) (cy : Nat → ClassId) (sz : Nat) (hN : MN ar) (st : Nat → Nat → Int32) (sl : Nat → Nat → Int64) (hI : MI st) : Met l yX12_spelt wsX12_spelt ({ frames := 0, cells := 0, slots := 0, locals := 0 }) (va_Pc [.int 109, .int 101, .int 101, .int 116, .int 115, .int 0, .int 0] (mPre dC dI ar cy sz st sl)) (va_Ql (fun (r : Int64) (x : MT) => x = (st, sl) ∧ (r = 7011352)) (mB dC dI ar cy) (MA ar sz)) 0 0 (MA ar sz) := by
  refine Met.ofW (cc := cX12_spelt) (maxL := 9) (ret := (some .long)) (by decide) rfl ?_
  intro p9 e s m9 args below meth c9 s₁ B9 hml hv
  obtain ⟨rfl, hsz, hP, hK⟩ := hv
  have hx := B9.exec
  have hb := B9.bytes
  have hr := B9.returns
  have hts := atoms_spec (ws := wsX12_spelt) B9.pre
  have hown : s.vm.findClass RX12 = some m9.cls := findClass_of_methodNamed B9.named
  subst hsz
  have hS : va_S (MA ar s.heap.size) s.heap s.heap [] := va_S.rf
  have hG : MG [1, 2, 3, 4, 5, 6, 7, 8, 9, 10, 11, 12, 13, 14, 15, 16, 17, 19, 20, 21, 22, 23] st st := MG.rf hI
  have hl := lv_entry ([.int 109, .int 101, .int 101, .int 116, .int 115, .int 0, .int 0]) (n := 9) (Nat.le_of_ble_eq_true rfl)
  rw [lg_entry_eq]
  generalize (lg_sl ([.int 109, .int 101, .int 101, .int 116, .int 115, .int 0, .int 0]) ++ List.replicate (9 - (lg_sl ([.int 109, .int 101, .int 101, .int 116, .int 115, .int 0, .int 0])).length) Slot.unset).toArray = ls at hl ⊢
  have hl : lv_has ls 9 [(0, .int 109), (1, .int 101), (2, .int 101), (3, .int 116), (4, .int 115), (5, .int 0), (6, .int 0)] := hl
  clear hI
  refine lv_ldc2 (v := 27) hx hb hown (hts _ mm_X12_spelt_1) dX12_spelt_0 ?_
  refine lv_iload_n hx hb dX12_spelt_3 rfl (lv_at hl 0 rfl) ?_
  refine lv_i2l (v := 109) hx hb dX12_spelt_4 (by decide) ?_
  refine lv_ldc2 (v := 96) hx hb hown (hts _ mm_X12_spelt_2) dX12_spelt_5 ?_
  refine lv_lsub hx hb dX12_spelt_8 ?_
  refine zz_topl (v := 13) (by decide) ?_
  refine lv_lmul hx hb dX12_spelt_9 ?_
  refine zz_topl (v := 351) (by decide) ?_
  refine lv_iload_n hx hb dX12_spelt_10 rfl (lv_at hl 1 rfl) ?_
  refine lv_i2l (v := 101) hx hb dX12_spelt_11 (by decide) ?_
  refine lv_ladd hx hb dX12_spelt_12 ?_
  refine zz_topl (v := 452) (by decide) ?_
  refine lv_ldc2 (v := 96) hx hb hown (hts _ mm_X12_spelt_2) dX12_spelt_13 ?_
  refine lv_lsub hx hb dX12_spelt_16 ?_
  refine zz_topl (v := 356) (by decide) ?_
  refine lv_lstore (lv' := [(7, .long 356), (0, .int 109), (1, .int 101), (2, .int 101), (3, .int 116), (4, .int 115), (5, .int 0), (6, .int 0)]) hx hb dX12_spelt_17 hl (by decide) rfl (fun ls hl => ?_)
  refine lv_iload_n hx hb dX12_spelt_19 rfl (lv_at hl 3 rfl) ?_
  refine lv_if_le (tgt := 38) hx hb dX12_spelt_20 (by decide) (fun cc => absurd cc (by decide)) (fun _ => ?_)
  refine lv_ldc2 (v := 27) hx hb hown (hts _ mm_X12_spelt_1) dX12_spelt_23 ?_
  refine lv_lload hx hb dX12_spelt_26 (lv_at hl 0 rfl) ?_
  refine lv_lmul hx hb dX12_spelt_28 ?_
  refine zz_topl (v := 9612) (by decide) ?_
  refine lv_iload_n hx hb dX12_spelt_29 rfl (lv_at hl 3 rfl) ?_
  refine lv_i2l (v := 101) hx hb dX12_spelt_30 (by decide) ?_
  refine lv_ladd hx hb dX12_spelt_31 ?_
  refine zz_topl (v := 9713) (by decide) ?_
  refine lv_ldc2 (v := 96) hx hb hown (hts _ mm_X12_spelt_2) dX12_spelt_32 ?_
  refine lv_lsub hx hb dX12_spelt_35 ?_
  refine zz_topl (v := 9617) (by decide) ?_
  refine lv_lstore (lv' := [(7, .long 9617), (0, .int 109), (1, .int 101), (2, .int 101), (3, .int 116), (4, .int 115), (5, .int 0), (6, .int 0)]) hx hb dX12_spelt_36 hl (by decide) rfl (fun ls hl => ?_)
  refine lv_iload_n hx hb dX12_spelt_38 rfl (lv_at hl 4 rfl) ?_
  refine lv_if_le (tgt := 57) hx hb dX12_spelt_39 (by decide) (fun cc => absurd cc (by decide)) (fun _ => ?_)
  refine lv_ldc2 (v := 27) hx hb hown (hts _ mm_X12_spelt_1) dX12_spelt_42 ?_
  refine lv_lload hx hb dX12_spelt_45 (lv_at hl 0 rfl) ?_
  refine lv_lmul hx hb dX12_spelt_47 ?_
  refine zz_topl (v := 259659) (by decide) ?_
  refine lv_iload_n hx hb dX12_spelt_48 rfl (lv_at hl 4 rfl) ?_
  refine lv_i2l (v := 116) hx hb dX12_spelt_49 (by decide) ?_
  refine lv_ladd hx hb dX12_spelt_50 ?_
  refine zz_topl (v := 259775) (by decide) ?_
  refine lv_ldc2 (v := 96) hx hb hown (hts _ mm_X12_spelt_2) dX12_spelt_51 ?_
  refine lv_lsub hx hb dX12_spelt_54 ?_
  refine zz_topl (v := 259679) (by decide) ?_
  refine lv_lstore (lv' := [(7, .long 259679), (0, .int 109), (1, .int 101), (2, .int 101), (3, .int 116), (4, .int 115), (5, .int 0), (6, .int 0)]) hx hb dX12_spelt_55 hl (by decide) rfl (fun ls hl => ?_)
  refine lv_iload hx hb dX12_spelt_57 (lv_at hl 5 rfl) ?_
  refine lv_if_le (tgt := 78) hx hb dX12_spelt_59 (by decide) (fun cc => absurd cc (by decide)) (fun _ => ?_)
  refine lv_ldc2 (v := 27) hx hb hown (hts _ mm_X12_spelt_1) dX12_spelt_62 ?_
  refine lv_lload hx hb dX12_spelt_65 (lv_at hl 0 rfl) ?_
  refine lv_lmul hx hb dX12_spelt_67 ?_
  refine zz_topl (v := 7011333) (by decide) ?_
  refine lv_iload hx hb dX12_spelt_68 (lv_at hl 5 rfl) ?_
  refine lv_i2l (v := 115) hx hb dX12_spelt_70 (by decide) ?_
  refine lv_ladd hx hb dX12_spelt_71 ?_
  refine zz_topl (v := 7011448) (by decide) ?_
  refine lv_ldc2 (v := 96) hx hb hown (hts _ mm_X12_spelt_2) dX12_spelt_72 ?_
  refine lv_lsub hx hb dX12_spelt_75 ?_
  refine zz_topl (v := 7011352) (by decide) ?_
  refine lv_lstore (lv' := [(7, .long 7011352), (0, .int 109), (1, .int 101), (2, .int 101), (3, .int 116), (4, .int 115), (5, .int 0), (6, .int 0)]) hx hb dX12_spelt_76 hl (by decide) rfl (fun ls hl => ?_)
  refine lv_iload hx hb dX12_spelt_78 (lv_at hl 6 rfl) ?_
  refine lv_if_le (tgt := 99) hx hb dX12_spelt_80 (by decide) (fun _ => ?_) (fun cc => absurd (by decide) cc)
  refine lv_iload hx hb dX12_spelt_99 (lv_at hl 7 rfl) ?_
  refine lv_if_le (tgt := 120) hx hb dX12_spelt_101 (by decide) (fun _ => ?_) (fun cc => absurd (by decide) cc)
  refine lv_lload hx hb dX12_spelt_120 (lv_at hl 0 rfl) ?_
  exact W.lret (v := 7011352) hx hb hr (fun t ht hW => ⟨⟨7011352, (st, sl), rfl, ⟨rfl, rfl⟩, mB.of ht hP⟩, hS.F ht⟩) hS.2.2 dX12_spelt_122
set_option maxHeartbeats 4000000 in
set_option maxRecDepth 100000 in
theorem f_spelt19 (l : Launch) (dC : Nat → ClassId) (dI : Nat → Nat → Nat) (ar : Nat → Nat) (cy : Nat → ClassId) (sz : Nat) (hN : MN ar) (st : Nat → Nat → Int32) (sl : Nat → Nat → Int64) (hI : MI st) : Met l yX12_spelt wsX12_spelt ({ frames := 0, cells := 0, slots := 0, locals := 0 }) (va_Pc [.int 97, .int 116, .int 0, .int 0, .int 0, .int 0, .int 0] (mPre dC dI ar cy sz st sl)) (va_Ql (fun (r : Int64) (x : MT) => x = (st, sl) ∧ (r = 47)) (mB dC dI ar cy) (MA ar sz)) 0 0 (MA ar sz) := by
  refine Met.ofW (cc := cX12_spelt) (maxL := 9) (ret := (some .long)) (by decide) rfl ?_
  intro p9 e s m9 args below meth c9 s₁ B9 hml hv
  obtain ⟨rfl, hsz, hP, hK⟩ := hv
  have hx := B9.exec
  have hb := B9.bytes
  have hr := B9.returns
  have hts := atoms_spec (ws := wsX12_spelt) B9.pre
  have hown : s.vm.findClass RX12 = some m9.cls := findClass_of_methodNamed B9.named
  subst hsz
  have hS : va_S (MA ar s.heap.size) s.heap s.heap [] := va_S.rf
  have hG : MG [1, 2, 3, 4, 5, 6, 7, 8, 9, 10, 11, 12, 13, 14, 15, 16, 17, 19, 20, 21, 22, 23] st st := MG.rf hI
  have hl := lv_entry ([.int 97, .int 116, .int 0, .int 0, .int 0, .int 0, .int 0]) (n := 9) (Nat.le_of_ble_eq_true rfl)
  rw [lg_entry_eq]
  generalize (lg_sl ([.int 97, .int 116, .int 0, .int 0, .int 0, .int 0, .int 0]) ++ List.replicate (9 - (lg_sl ([.int 97, .int 116, .int 0, .int 0, .int 0, .int 0, .int 0])).length) Slot.unset).toArray = ls at hl ⊢
  have hl : lv_has ls 9 [(0, .int 97), (1, .int 116), (2, .int 0), (3, .int 0), (4, .int 0), (5, .int 0), (6, .int 0)] := hl
  clear hI
  refine lv_ldc2 (v := 27) hx hb hown (hts _ mm_X12_spelt_1) dX12_spelt_0 ?_
  refine lv_iload_n hx hb dX12_spelt_3 rfl (lv_at hl 0 rfl) ?_
  refine lv_i2l (v := 97) hx hb dX12_spelt_4 (by decide) ?_
  refine lv_ldc2 (v := 96) hx hb hown (hts _ mm_X12_spelt_2) dX12_spelt_5 ?_
  refine lv_lsub hx hb dX12_spelt_8 ?_
  refine zz_topl (v := 1) (by decide) ?_
  refine lv_lmul hx hb dX12_spelt_9 ?_
  refine zz_topl (v := 27) (by decide) ?_
  refine lv_iload_n hx hb dX12_spelt_10 rfl (lv_at hl 1 rfl) ?_
  refine lv_i2l (v := 116) hx hb dX12_spelt_11 (by decide) ?_
  refine lv_ladd hx hb dX12_spelt_12 ?_
  refine zz_topl (v := 143) (by decide) ?_
  refine lv_ldc2 (v := 96) hx hb hown (hts _ mm_X12_spelt_2) dX12_spelt_13 ?_
  refine lv_lsub hx hb dX12_spelt_16 ?_
  refine zz_topl (v := 47) (by decide) ?_
  refine lv_lstore (lv' := [(7, .long 47), (0, .int 97), (1, .int 116), (2, .int 0), (3, .int 0), (4, .int 0), (5, .int 0), (6, .int 0)]) hx hb dX12_spelt_17 hl (by decide) rfl (fun ls hl => ?_)
  refine lv_iload_n hx hb dX12_spelt_19 rfl (lv_at hl 3 rfl) ?_
  refine lv_if_le (tgt := 38) hx hb dX12_spelt_20 (by decide) (fun _ => ?_) (fun cc => absurd (by decide) cc)
  refine lv_iload_n hx hb dX12_spelt_38 rfl (lv_at hl 4 rfl) ?_
  refine lv_if_le (tgt := 57) hx hb dX12_spelt_39 (by decide) (fun _ => ?_) (fun cc => absurd (by decide) cc)
  refine lv_iload hx hb dX12_spelt_57 (lv_at hl 5 rfl) ?_
  refine lv_if_le (tgt := 78) hx hb dX12_spelt_59 (by decide) (fun _ => ?_) (fun cc => absurd (by decide) cc)
  refine lv_iload hx hb dX12_spelt_78 (lv_at hl 6 rfl) ?_
  refine lv_if_le (tgt := 99) hx hb dX12_spelt_80 (by decide) (fun _ => ?_) (fun cc => absurd (by decide) cc)
  refine lv_iload hx hb dX12_spelt_99 (lv_at hl 7 rfl) ?_
  refine lv_if_le (tgt := 120) hx hb dX12_spelt_101 (by decide) (fun _ => ?_) (fun cc => absurd (by decide) cc)
  refine lv_lload hx hb dX12_spelt_120 (lv_at hl 0 rfl) ?_
  exact W.lret (v := 47) hx hb hr (fun t ht hW => ⟨⟨47, (st, sl), rfl, ⟨rfl, rfl⟩, mB.of ht hP⟩, hS.F ht⟩) hS.2.2 dX12_spelt_122
set_option maxHeartbeats 4000000 in
set_option maxRecDepth 100000 in
theorem f_spelt20 (l : Launch) (dC : Nat → ClassId) (dI : Nat → Nat → Nat) (ar : Nat → Nat) (cy : Nat → ClassId) (sz : Nat) (hN : MN ar) (st : Nat → Nat → Int32) (sl : Nat → Nat → Int64) (hI : MI st) : Met l yX12_spelt wsX12_spelt ({ frames := 0, cells := 0, slots := 0, locals := 0 }) (va_Pc [.int 102, .int 114, .int 105, .int 103, .int 104, .int 116, .int 115] (mPre dC dI ar cy sz st sl)) (va_Ql (fun (r : Int64) (x : MT) => x = (st, sl) ∧ (r = 2587730401)) (mB dC dI ar cy) (MA ar sz)) 0 0 (MA ar sz) := by
  refine Met.ofW (cc := cX12_spelt) (maxL := 9) (ret := (some .long)) (by decide) rfl ?_
  intro p9 e s m9 args below meth c9 s₁ B9 hml hv
  obtain ⟨rfl, hsz, hP, hK⟩ := hv
  have hx := B9.exec
  have hb := B9.bytes
  have hr := B9.returns
  have hts := atoms_spec (ws := wsX12_spelt) B9.pre
  have hown : s.vm.findClass RX12 = some m9.cls := findClass_of_methodNamed B9.named
  subst hsz
  have hS : va_S (MA ar s.heap.size) s.heap s.heap [] := va_S.rf
  have hG : MG [1, 2, 3, 4, 5, 6, 7, 8, 9, 10, 11, 12, 13, 14, 15, 16, 17, 19, 20, 21, 22, 23] st st := MG.rf hI
  have hl := lv_entry ([.int 102, .int 114, .int 105, .int 103, .int 104, .int 116, .int 115]) (n := 9) (Nat.le_of_ble_eq_true rfl)
  rw [lg_entry_eq]
  generalize (lg_sl ([.int 102, .int 114, .int 105, .int 103, .int 104, .int 116, .int 115]) ++ List.replicate (9 - (lg_sl ([.int 102, .int 114, .int 105, .int 103, .int 104, .int 116, .int 115])).length) Slot.unset).toArray = ls at hl ⊢
  have hl : lv_has ls 9 [(0, .int 102), (1, .int 114), (2, .int 105), (3, .int 103), (4, .int 104), (5, .int 116), (6, .int 115)] := hl
  clear hI
  refine lv_ldc2 (v := 27) hx hb hown (hts _ mm_X12_spelt_1) dX12_spelt_0 ?_
  refine lv_iload_n hx hb dX12_spelt_3 rfl (lv_at hl 0 rfl) ?_
  refine lv_i2l (v := 102) hx hb dX12_spelt_4 (by decide) ?_
  refine lv_ldc2 (v := 96) hx hb hown (hts _ mm_X12_spelt_2) dX12_spelt_5 ?_
  refine lv_lsub hx hb dX12_spelt_8 ?_
  refine zz_topl (v := 6) (by decide) ?_
  refine lv_lmul hx hb dX12_spelt_9 ?_
  refine zz_topl (v := 162) (by decide) ?_
  refine lv_iload_n hx hb dX12_spelt_10 rfl (lv_at hl 1 rfl) ?_
  refine lv_i2l (v := 114) hx hb dX12_spelt_11 (by decide) ?_
  refine lv_ladd hx hb dX12_spelt_12 ?_
  refine zz_topl (v := 276) (by decide) ?_
  refine lv_ldc2 (v := 96) hx hb hown (hts _ mm_X12_spelt_2) dX12_spelt_13 ?_
  refine lv_lsub hx hb dX12_spelt_16 ?_
  refine zz_topl (v := 180) (by decide) ?_
  refine lv_lstore (lv' := [(7, .long 180), (0, .int 102), (1, .int 114), (2, .int 105), (3, .int 103), (4, .int 104), (5, .int 116), (6, .int 115)]) hx hb dX12_spelt_17 hl (by decide) rfl (fun ls hl => ?_)
  refine lv_iload_n hx hb dX12_spelt_19 rfl (lv_at hl 3 rfl) ?_
  refine lv_if_le (tgt := 38) hx hb dX12_spelt_20 (by decide) (fun cc => absurd cc (by decide)) (fun _ => ?_)
  refine lv_ldc2 (v := 27) hx hb hown (hts _ mm_X12_spelt_1) dX12_spelt_23 ?_
  refine lv_lload hx hb dX12_spelt_26 (lv_at hl 0 rfl) ?_
  refine lv_lmul hx hb dX12_spelt_28 ?_
  refine zz_topl (v := 4860) (by decide) ?_
  refine lv_iload_n hx hb dX12_spelt_29 rfl (lv_at hl 3 rfl) ?_
  refine lv_i2l (v := 105) hx hb dX12_spelt_30 (by decide) ?_
  refine lv_ladd hx hb dX12_spelt_31 ?_
  refine zz_topl (v := 4965) (by decide) ?_
  refine lv_ldc2 (v := 96) hx hb hown (hts _ mm_X12_spelt_2) dX12_spelt_32 ?_
  refine lv_lsub hx hb dX12_spelt_35 ?_
  refine zz_topl (v := 4869) (by decide) ?_
  refine lv_lstore (lv' := [(7, .long 4869), (0, .int 102), (1, .int 114), (2, .int 105), (3, .int 103), (4, .int 104), (5, .int 116), (6, .int 115)]) hx hb dX12_spelt_36 hl (by decide) rfl (fun ls hl => ?_)
  refine lv_iload_n hx hb dX12_spelt_38 rfl (lv_at hl 4 rfl) ?_
  refine lv_if_le (tgt := 57) hx hb dX12_spelt_39 (by decide) (fun cc => absurd cc (by decide)) (fun _ => ?_)
  refine lv_ldc2 (v := 27) hx hb hown (hts _ mm_X12_spelt_1) dX12_spelt_42 ?_
  refine lv_lload hx hb dX12_spelt_45 (lv_at hl 0 rfl) ?_
  refine lv_lmul hx hb dX12_spelt_47 ?_
  refine zz_topl (v := 131463) (by decide) ?_
  refine lv_iload_n hx hb dX12_spelt_48 rfl (lv_at hl 4 rfl) ?_
  refine lv_i2l (v := 103) hx hb dX12_spelt_49 (by decide) ?_
  refine lv_ladd hx hb dX12_spelt_50 ?_
  refine zz_topl (v := 131566) (by decide) ?_
  refine lv_ldc2 (v := 96) hx hb hown (hts _ mm_X12_spelt_2) dX12_spelt_51 ?_
  refine lv_lsub hx hb dX12_spelt_54 ?_
  refine zz_topl (v := 131470) (by decide) ?_
  refine lv_lstore (lv' := [(7, .long 131470), (0, .int 102), (1, .int 114), (2, .int 105), (3, .int 103), (4, .int 104), (5, .int 116), (6, .int 115)]) hx hb dX12_spelt_55 hl (by decide) rfl (fun ls hl => ?_)
  refine lv_iload hx hb dX12_spelt_57 (lv_at hl 5 rfl) ?_
  refine lv_if_le (tgt := 78) hx hb dX12_spelt_59 (by decide) (fun cc => absurd cc (by decide)) (fun _ => ?_)
  refine lv_ldc2 (v := 27) hx hb hown (hts _ mm_X12_spelt_1) dX12_spelt_62 ?_
  refine lv_lload hx hb dX12_spelt_65 (lv_at hl 0 rfl) ?_
  refine lv_lmul hx hb dX12_spelt_67 ?_
  refine zz_topl (v := 3549690) (by decide) ?_
  refine lv_iload hx hb dX12_spelt_68 (lv_at hl 5 rfl) ?_
  refine lv_i2l (v := 104) hx hb dX12_spelt_70 (by decide) ?_
  refine lv_ladd hx hb dX12_spelt_71 ?_
  refine zz_topl (v := 3549794) (by decide) ?_
  refine lv_ldc2 (v := 96) hx hb hown (hts _ mm_X12_spelt_2) dX12_spelt_72 ?_
  refine lv_lsub hx hb dX12_spelt_75 ?_
  refine zz_topl (v := 3549698) (by decide) ?_
  refine lv_lstore (lv' := [(7, .long 3549698), (0, .int 102), (1, .int 114), (2, .int 105), (3, .int 103), (4, .int 104), (5, .int 116), (6, .int 115)]) hx hb dX12_spelt_76 hl (by decide) rfl (fun ls hl => ?_)
  refine lv_iload hx hb dX12_spelt_78 (lv_at hl 6 rfl) ?_
  refine lv_if_le (tgt := 99) hx hb dX12_spelt_80 (by decide) (fun cc => absurd cc (by decide)) (fun _ => ?_)
  refine lv_ldc2 (v := 27) hx hb hown (hts _ mm_X12_spelt_1) dX12_spelt_83 ?_
  refine lv_lload hx hb dX12_spelt_86 (lv_at hl 0 rfl) ?_
  refine lv_lmul hx hb dX12_spelt_88 ?_
  refine zz_topl (v := 95841846) (by decide) ?_
  refine lv_iload hx hb dX12_spelt_89 (lv_at hl 6 rfl) ?_
  refine lv_i2l (v := 116) hx hb dX12_spelt_91 (by decide) ?_
  refine lv_ladd hx hb dX12_spelt_92 ?_
  refine zz_topl (v := 95841962) (by decide) ?_
  refine lv_ldc2 (v := 96) hx hb hown (hts _ mm_X12_spelt_2) dX12_spelt_93 ?_
  refine lv_lsub hx hb dX12_spelt_96 ?_
  refine zz_topl (v := 95841866) (by decide) ?_
  refine lv_lstore (lv' := [(7, .long 95841866), (0, .int 102), (1, .int 114), (2, .int 105), (3, .int 103), (4, .int 104), (5, .int 116), (6, .int 115)]) hx hb dX12_spelt_97 hl (by decide) rfl (fun ls hl => ?_)
  refine lv_iload hx hb dX12_spelt_99 (lv_at hl 7 rfl) ?_
  refine lv_if_le (tgt := 120) hx hb dX12_spelt_101 (by decide) (fun cc => absurd cc (by decide)) (fun _ => ?_)
  refine lv_ldc2 (v := 27) hx hb hown (hts _ mm_X12_spelt_1) dX12_spelt_104 ?_
  refine lv_lload hx hb dX12_spelt_107 (lv_at hl 0 rfl) ?_
  refine lv_lmul hx hb dX12_spelt_109 ?_
  refine zz_topl (v := 2587730382) (by decide) ?_
  refine lv_iload hx hb dX12_spelt_110 (lv_at hl 7 rfl) ?_
  refine lv_i2l (v := 115) hx hb dX12_spelt_112 (by decide) ?_
  refine lv_ladd hx hb dX12_spelt_113 ?_
  refine zz_topl (v := 2587730497) (by decide) ?_
  refine lv_ldc2 (v := 96) hx hb hown (hts _ mm_X12_spelt_2) dX12_spelt_114 ?_
  refine lv_lsub hx hb dX12_spelt_117 ?_
  refine zz_topl (v := 2587730401) (by decide) ?_
  refine lv_lstore (lv' := [(7, .long 2587730401), (0, .int 102), (1, .int 114), (2, .int 105), (3, .int 103), (4, .int 104), (5, .int 116), (6, .int 115)]) hx hb dX12_spelt_118 hl (by decide) rfl (fun ls hl => ?_)
  refine lv_lload hx hb dX12_spelt_120 (lv_at hl 0 rfl) ?_
  exact W.lret (v := 2587730401) hx hb hr (fun t ht hW => ⟨⟨2587730401, (st, sl), rfl, ⟨rfl, rfl⟩, mB.of ht hP⟩, hS.F ht⟩) hS.2.2 dX12_spelt_122
set_option maxHeartbeats 4000000 in
set_option maxRecDepth 100000 in
theorem f_spelt21 (l : Launch) (dC : Nat → ClassId) (dI : Nat → Nat → Nat) (ar : Nat → Nat) (cy : Nat → ClassId) (sz : Nat) (hN : MN ar) (st : Nat → Nat → Int32) (sl : Nat → Nat → Int64) (hI : MI st) : Met l yX12_spelt wsX12_spelt ({ frames := 0, cells := 0, slots := 0, locals := 0 }) (va_Pc [.int 98, .int 105, .int 116, .int 101, .int 115, .int 0, .int 0] (mPre dC dI ar cy sz st sl)) (va_Ql (fun (r : Int64) (x : MT) => x = (st, sl) ∧ (r = 1254763)) (mB dC dI ar cy) (MA ar sz)) 0 0 (MA ar sz) := by
  refine Met.ofW (cc := cX12_spelt) (maxL := 9) (ret := (some .long)) (by decide) rfl ?_
  intro p9 e s m9 args below meth c9 s₁ B9 hml hv
  obtain ⟨rfl, hsz, hP, hK⟩ := hv
  have hx := B9.exec
  have hb := B9.bytes
  have hr := B9.returns
  have hts := atoms_spec (ws := wsX12_spelt) B9.pre
  have hown : s.vm.findClass RX12 = some m9.cls := findClass_of_methodNamed B9.named
  subst hsz
  have hS : va_S (MA ar s.heap.size) s.heap s.heap [] := va_S.rf
  have hG : MG [1, 2, 3, 4, 5, 6, 7, 8, 9, 10, 11, 12, 13, 14, 15, 16, 17, 19, 20, 21, 22, 23] st st := MG.rf hI
  have hl := lv_entry ([.int 98, .int 105, .int 116, .int 101, .int 115, .int 0, .int 0]) (n := 9) (Nat.le_of_ble_eq_true rfl)
  rw [lg_entry_eq]
  generalize (lg_sl ([.int 98, .int 105, .int 116, .int 101, .int 115, .int 0, .int 0]) ++ List.replicate (9 - (lg_sl ([.int 98, .int 105, .int 116, .int 101, .int 115, .int 0, .int 0])).length) Slot.unset).toArray = ls at hl ⊢
  have hl : lv_has ls 9 [(0, .int 98), (1, .int 105), (2, .int 116), (3, .int 101), (4, .int 115), (5, .int 0), (6, .int 0)] := hl
  clear hI
  refine lv_ldc2 (v := 27) hx hb hown (hts _ mm_X12_spelt_1) dX12_spelt_0 ?_
  refine lv_iload_n hx hb dX12_spelt_3 rfl (lv_at hl 0 rfl) ?_
  refine lv_i2l (v := 98) hx hb dX12_spelt_4 (by decide) ?_
  refine lv_ldc2 (v := 96) hx hb hown (hts _ mm_X12_spelt_2) dX12_spelt_5 ?_
  refine lv_lsub hx hb dX12_spelt_8 ?_
  refine zz_topl (v := 2) (by decide) ?_
  refine lv_lmul hx hb dX12_spelt_9 ?_
  refine zz_topl (v := 54) (by decide) ?_
  refine lv_iload_n hx hb dX12_spelt_10 rfl (lv_at hl 1 rfl) ?_
  refine lv_i2l (v := 105) hx hb dX12_spelt_11 (by decide) ?_
  refine lv_ladd hx hb dX12_spelt_12 ?_
  refine zz_topl (v := 159) (by decide) ?_
  refine lv_ldc2 (v := 96) hx hb hown (hts _ mm_X12_spelt_2) dX12_spelt_13 ?_
  refine lv_lsub hx hb dX12_spelt_16 ?_
  refine zz_topl (v := 63) (by decide) ?_
  refine lv_lstore (lv' := [(7, .long 63), (0, .int 98), (1, .int 105), (2, .int 116), (3, .int 101), (4, .int 115), (5, .int 0), (6, .int 0)]) hx hb dX12_spelt_17 hl (by decide) rfl (fun ls hl => ?_)
  refine lv_iload_n hx hb dX12_spelt_19 rfl (lv_at hl 3 rfl) ?_
  refine lv_if_le (tgt := 38) hx hb dX12_spelt_20 (by decide) (fun cc => absurd cc (by decide)) (fun _ => ?_)
  refine lv_ldc2 (v := 27) hx hb hown (hts _ mm_X12_spelt_1) dX12_spelt_23 ?_
  refine lv_lload hx hb dX12_spelt_26 (lv_at hl 0 rfl) ?_
  refine lv_lmul hx hb dX12_spelt_28 ?_
  refine zz_topl (v := 1701) (by decide) ?_
  refine lv_iload_n hx hb dX12_spelt_29 rfl (lv_at hl 3 rfl) ?_
  refine lv_i2l (v := 116) hx hb dX12_spelt_30 (by decide) ?_
  refine lv_ladd hx hb dX12_spelt_31 ?_
  refine zz_topl (v := 1817) (by decide) ?_
  refine lv_ldc2 (v := 96) hx hb hown (hts _ mm_X12_spelt_2) dX12_spelt_32 ?_
  refine lv_lsub hx hb dX12_spelt_35 ?_
  refine zz_topl (v := 1721) (by decide) ?_
  refine lv_lstore (lv' := [(7, .long 1721), (0, .int 98), (1, .int 105), (2, .int 116), (3, .int 101), (4, .int 115), (5, .int 0), (6, .int 0)]) hx hb dX12_spelt_36 hl (by decide) rfl (fun ls hl => ?_)
  refine lv_iload_n hx hb dX12_spelt_38 rfl (lv_at hl 4 rfl) ?_
  refine lv_if_le (tgt := 57) hx hb dX12_spelt_39 (by decide) (fun cc => absurd cc (by decide)) (fun _ => ?_)
  refine lv_ldc2 (v := 27) hx hb hown (hts _ mm_X12_spelt_1) dX12_spelt_42 ?_
  refine lv_lload hx hb dX12_spelt_45 (lv_at hl 0 rfl) ?_
  refine lv_lmul hx hb dX12_spelt_47 ?_
  refine zz_topl (v := 46467) (by decide) ?_
  refine lv_iload_n hx hb dX12_spelt_48 rfl (lv_at hl 4 rfl) ?_
  refine lv_i2l (v := 101) hx hb dX12_spelt_49 (by decide) ?_
  refine lv_ladd hx hb dX12_spelt_50 ?_
  refine zz_topl (v := 46568) (by decide) ?_
  refine lv_ldc2 (v := 96) hx hb hown (hts _ mm_X12_spelt_2) dX12_spelt_51 ?_
  refine lv_lsub hx hb dX12_spelt_54 ?_
  refine zz_topl (v := 46472) (by decide) ?_
  refine lv_lstore (lv' := [(7, .long 46472), (0, .int 98), (1, .int 105), (2, .int 116), (3, .int 101), (4, .int 115), (5, .int 0), (6, .int 0)]) hx hb dX12_spelt_55 hl (by decide) rfl (fun ls hl => ?_)
  refine lv_iload hx hb dX12_spelt_57 (lv_at hl 5 rfl) ?_
  refine lv_if_le (tgt := 78) hx hb dX12_spelt_59 (by decide) (fun cc => absurd cc (by decide)) (fun _ => ?_)
  refine lv_ldc2 (v := 27) hx hb hown (hts _ mm_X12_spelt_1) dX12_spelt_62 ?_
  refine lv_lload hx hb dX12_spelt_65 (lv_at hl 0 rfl) ?_
  refine lv_lmul hx hb dX12_spelt_67 ?_
  refine zz_topl (v := 1254744) (by decide) ?_
  refine lv_iload hx hb dX12_spelt_68 (lv_at hl 5 rfl) ?_
  refine lv_i2l (v := 115) hx hb dX12_spelt_70 (by decide) ?_
  refine lv_ladd hx hb dX12_spelt_71 ?_
  refine zz_topl (v := 1254859) (by decide) ?_
  refine lv_ldc2 (v := 96) hx hb hown (hts _ mm_X12_spelt_2) dX12_spelt_72 ?_
  refine lv_lsub hx hb dX12_spelt_75 ?_
  refine zz_topl (v := 1254763) (by decide) ?_
  refine lv_lstore (lv' := [(7, .long 1254763), (0, .int 98), (1, .int 105), (2, .int 116), (3, .int 101), (4, .int 115), (5, .int 0), (6, .int 0)]) hx hb dX12_spelt_76 hl (by decide) rfl (fun ls hl => ?_)
  refine lv_iload hx hb dX12_spelt_78 (lv_at hl 6 rfl) ?_
  refine lv_if_le (tgt := 99) hx hb dX12_spelt_80 (by decide) (fun _ => ?_) (fun cc => absurd (by decide) cc)
  refine lv_iload hx hb dX12_spelt_99 (lv_at hl 7 rfl) ?_
  refine lv_if_le (tgt := 120) hx hb dX12_spelt_101 (by decide) (fun _ => ?_) (fun cc => absurd (by decide) cc)
  refine lv_lload hx hb dX12_spelt_120 (lv_at hl 0 rfl) ?_
  exact W.lret (v := 1254763) hx hb hr (fun t ht hW => ⟨⟨1254763, (st, sl), rfl, ⟨rfl, rfl⟩, mB.of ht hP⟩, hS.F ht⟩) hS.2.2 dX12_spelt_122
set_option maxHeartbeats 4000000 in
set_option maxRecDepth 100000 in
theorem f_spelt22 (l : Launch) (dC : Nat → ClassId) (dI : Nat → Nat → Nat) (ar : Nat → Nat) (cy : Nat → ClassId) (sz : Nat) (hN : MN ar) (st : Nat → Nat → Int32) (sl : Nat → Nat → Int64) (hI : MI st) : Met l yX12_spelt wsX12_spelt ({ frames := 0, cells := 0, slots := 0, locals := 0 }) (va_Pc [.int 103, .int 111, .int 111, .int 100, .int 0, .int 0, .int 0] (mPre dC dI ar cy sz st sl)) (va_Ql (fun (r : Int64) (x : MT) => x = (st, sl) ∧ (r = 149125)) (mB dC dI ar cy) (MA ar sz)) 0 0 (MA ar sz) := by
  refine Met.ofW (cc := cX12_spelt) (maxL := 9) (ret := (some .long)) (by decide) rfl ?_
  intro p9 e s m9 args below meth c9 s₁ B9 hml hv
  obtain ⟨rfl, hsz, hP, hK⟩ := hv
  have hx := B9.exec
  have hb := B9.bytes
  have hr := B9.returns
  have hts := atoms_spec (ws := wsX12_spelt) B9.pre
  have hown : s.vm.findClass RX12 = some m9.cls := findClass_of_methodNamed B9.named
  subst hsz
  have hS : va_S (MA ar s.heap.size) s.heap s.heap [] := va_S.rf
  have hG : MG [1, 2, 3, 4, 5, 6, 7, 8, 9, 10, 11, 12, 13, 14, 15, 16, 17, 19, 20, 21, 22, 23] st st := MG.rf hI
  have hl := lv_entry ([.int 103, .int 111, .int 111, .int 100, .int 0, .int 0, .int 0]) (n := 9) (Nat.le_of_ble_eq_true rfl)
  rw [lg_entry_eq]
  generalize (lg_sl ([.int 103, .int 111, .int 111, .int 100, .int 0, .int 0, .int 0]) ++ List.replicate (9 - (lg_sl ([.int 103, .int 111, .int 111, .int 100, .int 0, .int 0, .int 0])).length) Slot.unset).toArray = ls at hl ⊢
  have hl : lv_has ls 9 [(0, .int 103), (1, .int 111), (2, .int 111), (3, .int 100), (4, .int 0), (5, .int 0), (6, .int 0)] := hl
  clear hI
  refine lv_ldc2 (v := 27) hx hb hown (hts _ mm_X12_spelt_1) dX12_spelt_0 ?_
  refine lv_iload_n hx hb dX12_spelt_3 rfl (lv_at hl 0 rfl) ?_
  refine lv_i2l (v := 103) hx hb dX12_spelt_4 (by decide) ?_
  refine lv_ldc2 (v := 96) hx hb hown (hts _ mm_X12_spelt_2) dX12_spelt_5 ?_
  refine lv_lsub hx hb dX12_spelt_8 ?_
  refine zz_topl (v := 7) (by decide) ?_
  refine lv_lmul hx hb dX12_spelt_9 ?_
  refine zz_topl (v := 189) (by decide) ?_
  refine lv_iload_n hx hb dX12_spelt_10 rfl (lv_at hl 1 rfl) ?_
  refine lv_i2l (v := 111) hx hb dX12_spelt_11 (by decide) ?_
  refine lv_ladd hx hb dX12_spelt_12 ?_
  refine zz_topl (v := 300) (by decide) ?_
  refine lv_ldc2 (v := 96) hx hb hown (hts _ mm_X12_spelt_2) dX12_spelt_13 ?_
  refine lv_lsub hx hb dX12_spelt_16 ?_
  refine zz_topl (v := 204) (by decide) ?_
  refine lv_lstore (lv' := [(7, .long 204), (0, .int 103), (1, .int 111), (2, .int 111), (3, .int 100), (4, .int 0), (5, .int 0), (6, .int 0)]) hx hb dX12_spelt_17 hl (by decide) rfl (fun ls hl => ?_)
  refine lv_iload_n hx hb dX12_spelt_19 rfl (lv_at hl 3 rfl) ?_
  refine lv_if_le (tgt := 38) hx hb dX12_spelt_20 (by decide) (fun cc => absurd cc (by decide)) (fun _ => ?_)
  refine lv_ldc2 (v := 27) hx hb hown (hts _ mm_X12_spelt_1) dX12_spelt_23 ?_
  refine lv_lload hx hb dX12_spelt_26 (lv_at hl 0 rfl) ?_
  refine lv_lmul hx hb dX12_spelt_28 ?_
  refine zz_topl (v := 5508) (by decide) ?_
  refine lv_iload_n hx hb dX12_spelt_29 rfl (lv_at hl 3 rfl) ?_
  refine lv_i2l (v := 111) hx hb dX12_spelt_30 (by decide) ?_
  refine lv_ladd hx hb dX12_spelt_31 ?_
  refine zz_topl (v := 5619) (by decide) ?_
  refine lv_ldc2 (v := 96) hx hb hown (hts _ mm_X12_spelt_2) dX12_spelt_32 ?_
  refine lv_lsub hx hb dX12_spelt_35 ?_
  refine zz_topl (v := 5523) (by decide) ?_
  refine lv_lstore (lv' := [(7, .long 5523), (0, .int 103), (1, .int 111), (2, .int 111), (3, .int 100), (4, .int 0), (5, .int 0), (6, .int 0)]) hx hb dX12_spelt_36 hl (by decide) rfl (fun ls hl => ?_)
  refine lv_iload_n hx hb dX12_spelt_38 rfl (lv_at hl 4 rfl) ?_
  refine lv_if_le (tgt := 57) hx hb dX12_spelt_39 (by decide) (fun cc => absurd cc (by decide)) (fun _ => ?_)
  refine lv_ldc2 (v := 27) hx hb hown (hts _ mm_X12_spelt_1) dX12_spelt_42 ?_
  refine lv_lload hx hb dX12_spelt_45 (lv_at hl 0 rfl) ?_
  refine lv_lmul hx hb dX12_spelt_47 ?_
  refine zz_topl (v := 149121) (by decide) ?_
  refine lv_iload_n hx hb dX12_spelt_48 rfl (lv_at hl 4 rfl) ?_
  refine lv_i2l (v := 100) hx hb dX12_spelt_49 (by decide) ?_
  refine lv_ladd hx hb dX12_spelt_50 ?_
  refine zz_topl (v := 149221) (by decide) ?_
  refine lv_ldc2 (v := 96) hx hb hown (hts _ mm_X12_spelt_2) dX12_spelt_51 ?_
  refine lv_lsub hx hb dX12_spelt_54 ?_
  refine zz_topl (v := 149125) (by decide) ?_
  refine lv_lstore (lv' := [(7, .long 149125), (0, .int 103), (1, .int 111), (2, .int 111), (3, .int 100), (4, .int 0), (5, .int 0), (6, .int 0)]) hx hb dX12_spelt_55 hl (by decide) rfl (fun ls hl => ?_)
  refine lv_iload hx hb dX12_spelt_57 (lv_at hl 5 rfl) ?_
  refine lv_if_le (tgt := 78) hx hb dX12_spelt_59 (by decide) (fun _ => ?_) (fun cc => absurd (by decide) cc)
  refine lv_iload hx hb dX12_spelt_78 (lv_at hl 6 rfl) ?_
  refine lv_if_le (tgt := 99) hx hb dX12_spelt_80 (by decide) (fun _ => ?_) (fun cc => absurd (by decide) cc)
  refine lv_iload hx hb dX12_spelt_99 (lv_at hl 7 rfl) ?_
  refine lv_if_le (tgt := 120) hx hb dX12_spelt_101 (by decide) (fun _ => ?_) (fun cc => absurd (by decide) cc)
  refine lv_lload hx hb dX12_spelt_120 (lv_at hl 0 rfl) ?_
  exact W.lret (v := 149125) hx hb hr (fun t ht hW => ⟨⟨149125, (st, sl), rfl, ⟨rfl, rfl⟩, mB.of ht hP⟩, hS.F ht⟩) hS.2.2 dX12_spelt_122
set_option maxHeartbeats 4000000 in
set_option maxRecDepth 100000 in
theorem f_spelt23 (l : Launch) (dC : Nat → ClassId) (dI : Nat → Nat → Nat) (ar : Nat → Nat) (cy : Nat → ClassId) (sz : Nat) (hN : MN ar) (st : Nat → Nat → Int32) (sl : Nat → Nat → Int64) (hI : MI st) : Met l yX12_spelt wsX12_spelt ({ frames := 0, cells := 0, slots := 0, locals := 0 }) (va_Pc [.int 110, .int 117, .int 109, .int 98, .int 101, .int 114, .int 0] (mPre dC dI ar cy sz st sl)) (va_Ql (fun (r : Int64) (x : MT) => x = (st, sl) ∧ (r = 212302449)) (mB dC dI ar cy) (MA ar sz)) 0 0 (MA ar sz) := by
  refine Met.ofW (cc := cX12_spelt) (maxL := 9) (ret := (some .long)) (by decide) rfl ?_
  intro p9 e s m9 args below meth c9 s₁ B9 hml hv
  obtain ⟨rfl, hsz, hP, hK⟩ := hv
  have hx := B9.exec
  have hb := B9.bytes
  have hr := B9.returns
  have hts := atoms_spec (ws := wsX12_spelt) B9.pre
  have hown : s.vm.findClass RX12 = some m9.cls := findClass_of_methodNamed B9.named
  subst hsz
  have hS : va_S (MA ar s.heap.size) s.heap s.heap [] := va_S.rf
  have hG : MG [1, 2, 3, 4, 5, 6, 7, 8, 9, 10, 11, 12, 13, 14, 15, 16, 17, 19, 20, 21, 22, 23] st st := MG.rf hI
  have hl := lv_entry ([.int 110, .int 117, .int 109, .int 98, .int 101, .int 114, .int 0]) (n := 9) (Nat.le_of_ble_eq_true rfl)
  rw [lg_entry_eq]
  generalize (lg_sl ([.int 110, .int 117, .int 109, .int 98, .int 101, .int 114, .int 0]) ++ List.replicate (9 - (lg_sl ([.int 110, .int 117, .int 109, .int 98, .int 101, .int 114, .int 0])).length) Slot.unset).toArray = ls at hl ⊢
  have hl : lv_has ls 9 [(0, .int 110), (1, .int 117), (2, .int 109), (3, .int 98), (4, .int 101), (5, .int 114), (6, .int 0)] := hl
  clear hI
  refine lv_ldc2 (v := 27) hx hb hown (hts _ mm_X12_spelt_1) dX12_spelt_0 ?_
  refine lv_iload_n hx hb dX12_spelt_3 rfl (lv_at hl 0 rfl) ?_
  refine lv_i2l (v := 110) hx hb dX12_spelt_4 (by decide) ?_
  refine lv_ldc2 (v := 96) hx hb hown (hts _ mm_X12_spelt_2) dX12_spelt_5 ?_
  refine lv_lsub hx hb dX12_spelt_8 ?_
  refine zz_topl (v := 14) (by decide) ?_
  refine lv_lmul hx hb dX12_spelt_9 ?_
  refine zz_topl (v := 378) (by decide) ?_
  refine lv_iload_n hx hb dX12_spelt_10 rfl (lv_at hl 1 rfl) ?_
  refine lv_i2l (v := 117) hx hb dX12_spelt_11 (by decide) ?_
  refine lv_ladd hx hb dX12_spelt_12 ?_
  refine zz_topl (v := 495) (by decide) ?_
  refine lv_ldc2 (v := 96) hx hb hown (hts _ mm_X12_spelt_2) dX12_spelt_13 ?_
  refine lv_lsub hx hb dX12_spelt_16 ?_
  refine zz_topl (v := 399) (by decide) ?_
  refine lv_lstore (lv' := [(7, .long 399), (0, .int 110), (1, .int 117), (2, .int 109), (3, .int 98), (4, .int 101), (5, .int 114), (6, .int 0)]) hx hb dX12_spelt_17 hl (by decide) rfl (fun ls hl => ?_)
  refine lv_iload_n hx hb dX12_spelt_19 rfl (lv_at hl 3 rfl) ?_
  refine lv_if_le (tgt := 38) hx hb dX12_spelt_20 (by decide) (fun cc => absurd cc (by decide)) (fun _ => ?_)
  refine lv_ldc2 (v := 27) hx hb hown (hts _ mm_X12_spelt_1) dX12_spelt_23 ?_
  refine lv_lload hx hb dX12_spelt_26 (lv_at hl 0 rfl) ?_
  refine lv_lmul hx hb dX12_spelt_28 ?_
  refine zz_topl (v := 10773) (by decide) ?_
  refine lv_iload_n hx hb dX12_spelt_29 rfl (lv_at hl 3 rfl) ?_
  refine lv_i2l (v := 109) hx hb dX12_spelt_30 (by decide) ?_
  refine lv_ladd hx hb dX12_spelt_31 ?_
  refine zz_topl (v := 10882) (by decide) ?_
  refine lv_ldc2 (v := 96) hx hb hown (hts _ mm_X12_spelt_2) dX12_spelt_32 ?_
  refine lv_lsub hx hb dX12_spelt_35 ?_
  refine zz_topl (v := 10786) (by decide) ?_
  refine lv_lstore (lv' := [(7, .long 10786), (0, .int 110), (1, .int 117), (2, .int 109), (3, .int 98), (4, .int 101), (5, .int 114), (6, .int 0)]) hx hb dX12_spelt_36 hl (by decide) rfl (fun ls hl => ?_)
  refine lv_iload_n hx hb dX12_spelt_38 rfl (lv_at hl 4 rfl) ?_
  refine lv_if_le (tgt := 57) hx hb dX12_spelt_39 (by decide) (fun cc => absurd cc (by decide)) (fun _ => ?_)
  refine lv_ldc2 (v := 27) hx hb hown (hts _ mm_X12_spelt_1) dX12_spelt_42 ?_
  refine lv_lload hx hb dX12_spelt_45 (lv_at hl 0 rfl) ?_
  refine lv_lmul hx hb dX12_spelt_47 ?_
  refine zz_topl (v := 291222) (by decide) ?_
  refine lv_iload_n hx hb dX12_spelt_48 rfl (lv_at hl 4 rfl) ?_
  refine lv_i2l (v := 98) hx hb dX12_spelt_49 (by decide) ?_
  refine lv_ladd hx hb dX12_spelt_50 ?_
  refine zz_topl (v := 291320) (by decide) ?_
  refine lv_ldc2 (v := 96) hx hb hown (hts _ mm_X12_spelt_2) dX12_spelt_51 ?_
  refine lv_lsub hx hb dX12_spelt_54 ?_
  refine zz_topl (v := 291224) (by decide) ?_
  refine lv_lstore (lv' := [(7, .long 291224), (0, .int 110), (1, .int 117), (2, .int 109), (3, .int 98), (4, .int 101), (5, .int 114), (6, .int 0)]) hx hb dX12_spelt_55 hl (by decide) rfl (fun ls hl => ?_)
  refine lv_iload hx hb dX12_spelt_57 (lv_at hl 5 rfl) ?_
  refine lv_if_le (tgt := 78) hx hb dX12_spelt_59 (by decide) (fun cc => absurd cc (by decide)) (fun _ => ?_)
  refine lv_ldc2 (v := 27) hx hb hown (hts _ mm_X12_spelt_1) dX12_spelt_62 ?_
  refine lv_lload hx hb dX12_spelt_65 (lv_at hl 0 rfl) ?_
  refine lv_lmul hx hb dX12_spelt_67 ?_
  refine zz_topl (v := 7863048) (by decide) ?_
  refine lv_iload hx hb dX12_spelt_68 (lv_at hl 5 rfl) ?_
  refine lv_i2l (v := 101) hx hb dX12_spelt_70 (by decide) ?_
  refine lv_ladd hx hb dX12_spelt_71 ?_
  refine zz_topl (v := 7863149) (by decide) ?_
  refine lv_ldc2 (v := 96) hx hb hown (hts _ mm_X12_spelt_2) dX12_spelt_72 ?_
  refine lv_lsub hx hb dX12_spelt_75 ?_
  refine zz_topl (v := 7863053) (by decide) ?_
  refine lv_lstore (lv' := [(7, .long 7863053), (0, .int 110), (1, .int 117), (2, .int 109), (3, .int 98), (4, .int 101), (5, .int 114), (6, .int 0)]) hx hb dX12_spelt_76 hl (by decide) rfl (fun ls hl => ?_)
  refine lv_iload hx hb dX12_spelt_78 (lv_at hl 6 rfl) ?_
  refine lv_if_le (tgt := 99) hx hb dX12_spelt_80 (by decide) (fun cc => absurd cc (by decide)) (fun _ => ?_)
  refine lv_ldc2 (v := 27) hx hb hown (hts _ mm_X12_spelt_1) dX12_spelt_83 ?_
  refine lv_lload hx hb dX12_spelt_86 (lv_at hl 0 rfl) ?_
  refine lv_lmul hx hb dX12_spelt_88 ?_
  refine zz_topl (v := 212302431) (by decide) ?_
  refine lv_iload hx hb dX12_spelt_89 (lv_at hl 6 rfl) ?_
  refine lv_i2l (v := 114) hx hb dX12_spelt_91 (by decide) ?_
  refine lv_ladd hx hb dX12_spelt_92 ?_
  refine zz_topl (v := 212302545) (by decide) ?_
  refine lv_ldc2 (v := 96) hx hb hown (hts _ mm_X12_spelt_2) dX12_spelt_93 ?_
  refine lv_lsub hx hb dX12_spelt_96 ?_
  refine zz_topl (v := 212302449) (by decide) ?_
  refine lv_lstore (lv' := [(7, .long 212302449), (0, .int 110), (1, .int 117), (2, .int 109), (3, .int 98), (4, .int 101), (5, .int 114), (6, .int 0)]) hx hb dX12_spelt_97 hl (by decide) rfl (fun ls hl => ?_)
  refine lv_iload hx hb dX12_spelt_99 (lv_at hl 7 rfl) ?_
  refine lv_if_le (tgt := 120) hx hb dX12_spelt_101 (by decide) (fun _ => ?_) (fun cc => absurd (by decide) cc)
  refine lv_lload hx hb dX12_spelt_120 (lv_at hl 0 rfl) ?_
  exact W.lret (v := 212302449) hx hb hr (fun t ht hW => ⟨⟨212302449, (st, sl), rfl, ⟨rfl, rfl⟩, mB.of ht hP⟩, hS.F ht⟩) hS.2.2 dX12_spelt_122
set_option maxHeartbeats 4000000 in
set_option maxRecDepth 100000 in
theorem f_wordOf0 (l : Launch) (dC : Nat → ClassId) (dI : Nat → Nat → Nat) (ar : Nat → Nat) (cy : Nat → ClassId) (sz : Nat) (hN : MN ar) (st : Nat → Nat → Int32) (sl : Nat → Nat → Int64) (hI : MI st) : Met l yX12_wordOf wsX12_wordOf ({ frames := 1, cells := 0, slots := 0, locals := 28 }) (va_Pc [.int 0] (mPre dC dI ar cy sz st sl)) (va_Ql (fun (r : Int64) (x : MT) => x = (st, sl) ∧ (r = 8740067)) (mB dC dI ar cy) (MA ar sz)) 0 0 (MA ar sz) := by
  refine Met.ofW (cc := cX12_wordOf) (maxL := 1) (ret := (some .long)) (by decide) rfl ?_
  intro p9 e s m9 args below meth c9 s₁ B9 hml hv
  obtain ⟨rfl, hsz, hP, hK⟩ := hv
  have hx := B9.exec
  have hb := B9.bytes
  have hr := B9.returns
  have hts := atoms_spec (ws := wsX12_wordOf) B9.pre
  have hown : s.vm.findClass RX12 = some m9.cls := findClass_of_methodNamed B9.named
  subst hsz
  have hS : va_S (MA ar s.heap.size) s.heap s.heap [] := va_S.rf
  have hG : MG [1, 2, 3, 4, 5, 6, 7, 8, 9, 10, 11, 12, 13, 14, 15, 16, 17, 19, 20, 21, 22, 23] st st := MG.rf hI
  have hl := lv_entry ([.int 0]) (n := 1) (Nat.le_of_ble_eq_true rfl)
  rw [lg_entry_eq]
  generalize (lg_sl ([.int 0]) ++ List.replicate (1 - (lg_sl ([.int 0])).length) Slot.unset).toArray = ls at hl ⊢
  have hl : lv_has ls 1 [(0, .int 0)] := hl
  clear hI
  refine lv_iload_n hx hb dX12_wordOf_0 rfl (lv_at hl 0 rfl) ?_
  refine lv_tableIn (tgt := 108) hx hb dX12_wordOf_1 (by decide) (by decide) rfl (by decide) ?_
  refine lv_bipush (v := 112) hx hb dX12_wordOf_108 (by decide) ?_
  refine lv_bipush (v := 108) hx hb dX12_wordOf_110 (by decide) ?_
  refine lv_bipush (v := 97) hx hb dX12_wordOf_112 (by decide) ?_
  refine lv_bipush (v := 99) hx hb dX12_wordOf_114 (by decide) ?_
  refine lv_bipush (v := 101) hx hb dX12_wordOf_116 (by decide) ?_
  refine lv_iconst (v := 0) hx hb dX12_wordOf_118 (by decide) ?_
  refine lv_iconst (v := 0) hx hb dX12_wordOf_119 (by decide) ?_
  refine va_calll (va_runS (As := [.int 112, .int 108, .int 97, .int 99, .int 101, .int 0, .int 0]) (rest := []) ⟨hx, hb, hml, hown, hts⟩ (f_spelt0 l dC dI ar cy _ hN st sl hG.1 ) (va_cwS 7 hts gX12_wordOf_X12_spelt rfl rfl rfl (by decide +kernel) ⟨Nat.le_of_ble_eq_true rfl, Nat.le_of_ble_eq_true rfl⟩) ⟨fun a U g mk q => ⟨q.1, mPre.blind q.2⟩, fun U hU hW => ⟨rfl, mPre.of hP hK hU hW⟩⟩ rfl rfl hl.1 rfl (lv_room (Nat.le_of_ble_eq_true rfl)) dX12_wordOf_120 ⟨Nat.le_of_ble_eq_true rfl, Nat.le_of_ble_eq_true rfl⟩) hS (fun q _ h => MA.le hS.1 q h) (MA.le hS.1) (fun r1 x t H locs ht hvm hw hB9 _ _ hS => ?_)
  have hP := mB.at ht hB9
  clear hB9 ht hvm
  obtain ⟨rfl, hw⟩ := hw
  have hP : va_P (dC, dI) vwCl (mw ar cy st sl) _ := hP
  obtain rfl := hw
  exact W.lret (v := 8740067) hx hb hr (fun t ht hW => ⟨⟨8740067, (st, sl), rfl, ⟨rfl, rfl⟩, mB.of ht hP⟩, hS.F ht⟩) hS.2.2 dX12_wordOf_123
set_option maxHeartbeats 4000000 in
set_option maxRecDepth 100000 in
theorem f_wordOf1 (l : Launch) (dC : Nat → ClassId) (dI : Nat → Nat → Nat) (ar : Nat → Nat) (cy : Nat → ClassId) (sz : Nat) (hN : MN ar) (st : Nat → Nat → Int32) (sl : Nat → Nat → Int64) (hI : MI st) : Met l yX12_wordOf wsX12_wordOf ({ frames := 1, cells := 0, slots := 0, locals := 28 }) (va_Pc [.int 1] (mPre dC dI ar cy sz st sl)) (va_Ql (fun (r : Int64) (x : MT) => x = (st, sl) ∧ (r = 89028535)) (mB dC dI ar cy) (MA ar sz)) 0 0 (MA ar sz) := by
  refine Met.ofW (cc := cX12_wordOf) (maxL := 1) (ret := (some .long)) (by decide) rfl ?_
  intro p9 e s m9 args below meth c9 s₁ B9 hml hv
  obtain ⟨rfl, hsz, hP, hK⟩ := hv
  have hx := B9.exec
  have hb := B9.bytes
  have hr := B9.returns
  have hts := atoms_spec (ws := wsX12_wordOf) B9.pre
  have hown : s.vm.findClass RX12 = some m9.cls := findClass_of_methodNamed B9.named
  subst hsz
  have hS : va_S (MA ar s.heap.size) s.heap s.heap [] := va_S.rf
  have hG : MG [1, 2, 3, 4, 5, 6, 7, 8, 9, 10, 11, 12, 13, 14, 15, 16, 17, 19, 20, 21, 22, 23] st st := MG.rf hI
  have hl := lv_entry ([.int 1]) (n := 1) (Nat.le_of_ble_eq_true rfl)
  rw [lg_entry_eq]
  generalize (lg_sl ([.int 1]) ++ List.replicate (1 - (lg_sl ([.int 1])).length) Slot.unset).toArray = ls at hl ⊢
  have hl : lv_has ls 1 [(0, .int 1)] := hl
  clear hI
  refine lv_iload_n hx hb dX12_wordOf_0 rfl (lv_at hl 0 rfl) ?_
  refine lv_tableIn (tgt := 124) hx hb dX12_wordOf_1 (by decide) (by decide) rfl (by decide) ?_
  refine lv_bipush (v := 102) hx hb dX12_wordOf_124 (by decide) ?_
  refine lv_bipush (v := 101) hx hb dX12_wordOf_126 (by decide) ?_
  refine lv_bipush (v := 110) hx hb dX12_wordOf_128 (by decide) ?_
  refine lv_bipush (v := 99) hx hb dX12_wordOf_130 (by decide) ?_
  refine lv_bipush (v := 101) hx hb dX12_wordOf_132 (by decide) ?_
  refine lv_bipush (v := 100) hx hb dX12_wordOf_134 (by decide) ?_
  refine lv_iconst (v := 0) hx hb dX12_wordOf_136 (by decide) ?_
  refine va_calll (va_runS (As := [.int 102, .int 101, .int 110, .int 99, .int 101, .int 100, .int 0]) (rest := []) ⟨hx, hb, hml, hown, hts⟩ (f_spelt1 l dC dI ar cy _ hN st sl hG.1 ) (va_cwS 7 hts gX12_wordOf_X12_spelt rfl rfl rfl (by decide +kernel) ⟨Nat.le_of_ble_eq_true rfl, Nat.le_of_ble_eq_true rfl⟩) ⟨fun a U g mk q => ⟨q.1, mPre.blind q.2⟩, fun U hU hW => ⟨rfl, mPre.of hP hK hU hW⟩⟩ rfl rfl hl.1 rfl (lv_room (Nat.le_of_ble_eq_true rfl)) dX12_wordOf_137 ⟨Nat.le_of_ble_eq_true rfl, Nat.le_of_ble_eq_true rfl⟩) hS (fun q _ h => MA.le hS.1 q h) (MA.le hS.1) (fun r1 x t H locs ht hvm hw hB9 _ _ hS => ?_)
  have hP := mB.at ht hB9
  clear hB9 ht hvm
  obtain ⟨rfl, hw⟩ := hw
  have hP : va_P (dC, dI) vwCl (mw ar cy st sl) _ := hP
  obtain rfl := hw
  exact W.lret (v := 89028535) hx hb hr (fun t ht hW => ⟨⟨89028535, (st, sl), rfl, ⟨rfl, rfl⟩, mB.of ht hP⟩, hS.F ht⟩) hS.2.2 dX12_wordOf_140
set_option maxHeartbeats 4000000 in
set_option maxRecDepth 100000 in
theorem f_wordOf2 (l : Launch) (dC : Nat → ClassId) (dI : Nat → Nat → Nat) (ar : Nat → Nat) (cy : Nat → ClassId) (sz : Nat) (hN : MN ar) (st : Nat → Nat → Int32) (sl : Nat → Nat → Int64) (hI : MI st) : Met l yX12_wordOf wsX12_wordOf ({ frames := 1, cells := 0, slots := 0, locals := 28 }) (va_Pc [.int 2] (mPre dC dI ar cy sz st sl)) (va_Ql (fun (r : Int64) (x : MT) => x = (st, sl) ∧ (r = 232608281)) (mB dC dI ar cy) (MA ar sz)) 0 0 (MA ar sz) := by
  refine Met.ofW (cc := cX12_wordOf) (maxL := 1) (ret := (some .long)) (by decide) rfl ?_
  intro p9 e s m9 args below meth c9 s₁ B9 hml hv
  obtain ⟨rfl, hsz, hP, hK⟩ := hv
  have hx := B9.exec
  have hb := B9.bytes
  have hr := B9.returns
  have hts := atoms_spec (ws := wsX12_wordOf) B9.pre
  have hown : s.vm.findClass RX12 = some m9.cls := findClass_of_methodNamed B9.named
  subst hsz
  have hS : va_S (MA ar s.heap.size) s.heap s.heap [] := va_S.rf
  have hG : MG [1, 2, 3, 4, 5, 6, 7, 8, 9, 10, 11, 12, 13, 14, 15, 16, 17, 19, 20, 21, 22, 23] st st := MG.rf hI
  have hl := lv_entry ([.int 2]) (n := 1) (Nat.le_of_ble_eq_true rfl)
  rw [lg_entry_eq]
  generalize (lg_sl ([.int 2]) ++ List.replicate (1 - (lg_sl ([.int 2])).length) Slot.unset).toArray = ls at hl ⊢
  have hl : lv_has ls 1 [(0, .int 2)] := hl
  clear hI
  refine lv_iload_n hx hb dX12_wordOf_0 rfl (lv_at hl 0 rfl) ?_
  refine lv_tableIn (tgt := 141) hx hb dX12_wordOf_1 (by decide) (by decide) rfl (by decide) ?_
  refine lv_bipush (v := 112) hx hb dX12_wordOf_141 (by decide) ?_
  refine lv_bipush (v := 101) hx hb dX12_wordOf_143 (by decide) ?_
  refine lv_bipush (v := 114) hx hb dX12_wordOf_145 (by decide) ?_
  refine lv_bipush (v := 115) hx hb dX12_wordOf_147 (by decide) ?_
  refine lv_bipush (v := 111) hx hb dX12_wordOf_149 (by decide) ?_
  refine lv_bipush (v := 110) hx hb dX12_wordOf_151 (by decide) ?_
  refine lv_iconst (v := 0) hx hb dX12_wordOf_153 (by decide) ?_
  refine va_calll (va_runS (As := [.int 112, .int 101, .int 114, .int 115, .int 111, .int 110, .int 0]) (rest := []) ⟨hx, hb, hml, hown, hts⟩ (f_spelt2 l dC dI ar cy _ hN st sl hG.1 ) (va_cwS 7 hts gX12_wordOf_X12_spelt rfl rfl rfl (by decide +kernel) ⟨Nat.le_of_ble_eq_true rfl, Nat.le_of_ble_eq_true rfl⟩) ⟨fun a U g mk q => ⟨q.1, mPre.blind q.2⟩, fun U hU hW => ⟨rfl, mPre.of hP hK hU hW⟩⟩ rfl rfl hl.1 rfl (lv_room (Nat.le_of_ble_eq_true rfl)) dX12_wordOf_154 ⟨Nat.le_of_ble_eq_true rfl, Nat.le_of_ble_eq_true rfl⟩) hS (fun q _ h => MA.le hS.1 q h) (MA.le hS.1) (fun r1 x t H locs ht hvm hw hB9 _ _ hS => ?_)
  have hP := mB.at ht hB9
  clear hB9 ht hvm
  obtain ⟨rfl, hw⟩ := hw
  have hP : va_P (dC, dI) vwCl (mw ar cy st sl) _ := hP
  obtain rfl := hw
  exact W.lret (v := 232608281) hx hb hr (fun t ht hW => ⟨⟨232608281, (st, sl), rfl, ⟨rfl, rfl⟩, mB.of ht hP⟩, hS.F ht⟩) hS.2.2 dX12_wordOf_157
set_option maxHeartbeats 4000000 in
set_option maxRecDepth 100000 in
theorem f_wordOf3 (l : Launch) (dC : Nat → ClassId) (dI : Nat → Nat → Nat) (ar : Nat → Nat) (cy : Nat → ClassId) (sz : Nat) (hN : MN ar) (st : Nat → Nat → Int32) (sl : Nat → Nat → Int64) (hI : MI st) : Met l yX12_wordOf wsX12_wordOf ({ frames := 1, cells := 0, slots := 0, locals := 28 }) (va_Pc [.int 3] (mPre dC dI ar cy sz st sl)) (va_Ql (fun (r : Int64) (x : MT) => x = (st, sl) ∧ (r = 3328)) (mB dC dI ar cy) (MA ar sz)) 0 0 (MA ar sz) := by
  refine Met.ofW (cc := cX12_wordOf) (maxL := 1) (ret := (some .long)) (by decide) rfl ?_
  intro p9 e s m9 args below meth c9 s₁ B9 hml hv
  obtain ⟨rfl, hsz, hP, hK⟩ := hv
  have hx := B9.exec
  have hb := B9.bytes
  have hr := B9.returns
  have hts := atoms_spec (ws := wsX12_wordOf) B9.pre
  have hown : s.vm.findClass RX12 = some m9.cls := findClass_of_methodNamed B9.named
  subst hsz
  have hS : va_S (MA ar s.heap.size) s.heap s.heap [] := va_S.rf
  have hG : MG [1, 2, 3, 4, 5, 6, 7, 8, 9, 10, 11, 12, 13, 14, 15, 16, 17, 19, 20, 21, 22, 23] st st := MG.rf hI
  have hl := lv_entry ([.int 3]) (n := 1) (Nat.le_of_ble_eq_true rfl)
  rw [lg_entry_eq]
  generalize (lg_sl ([.int 3]) ++ List.replicate (1 - (lg_sl ([.int 3])).length) Slot.unset).toArray = ls at hl ⊢
  have hl : lv_has ls 1 [(0, .int 3)] := hl
  clear hI
  refine lv_iload_n hx hb dX12_wordOf_0 rfl (lv_at hl 0 rfl) ?_
  refine lv_tableIn (tgt := 158) hx hb dX12_wordOf_1 (by decide) (by decide) rfl (by decide) ?_
  refine lv_bipush (v := 100) hx hb dX12_wordOf_158 (by decide) ?_
  refine lv_bipush (v := 111) hx hb dX12_wordOf_160 (by decide) ?_
  refine lv_bipush (v := 103) hx hb dX12_wordOf_162 (by decide) ?_
  refine lv_iconst (v := 0) hx hb dX12_wordOf_164 (by decide) ?_
  refine lv_iconst (v := 0) hx hb dX12_wordOf_165 (by decide) ?_
  refine lv_iconst (v := 0) hx hb dX12_wordOf_166 (by decide) ?_
  refine lv_iconst (v := 0) hx hb dX12_wordOf_167 (by decide) ?_
  refine va_calll (va_runS (As := [.int 100, .int 111, .int 103, .int 0, .int 0, .int 0, .int 0]) (rest := []) ⟨hx, hb, hml, hown, hts⟩ (f_spelt3 l dC dI ar cy _ hN st sl hG.1 ) (va_cwS 7 hts gX12_wordOf_X12_spelt rfl rfl rfl (by decide +kernel) ⟨Nat.le_of_ble_eq_true rfl, Nat.le_of_ble_eq_true rfl⟩) ⟨fun a U g mk q => ⟨q.1, mPre.blind q.2⟩, fun U hU hW => ⟨rfl, mPre.of hP hK hU hW⟩⟩ rfl rfl hl.1 rfl (lv_room (Nat.le_of_ble_eq_true rfl)) dX12_wordOf_168 ⟨Nat.le_of_ble_eq_true rfl, Nat.le_of_ble_eq_true rfl⟩) hS (fun q _ h => MA.le hS.1 q h) (MA.le hS.1) (fun r1 x t H locs ht hvm hw hB9 _ _ hS => ?_)
  have hP := mB.at ht hB9
  clear hB9 ht hvm
  obtain ⟨rfl, hw⟩ := hw
  have hP : va_P (dC, dI) vwCl (mw ar cy st sl) _ := hP
  obtain rfl := hw
  exact W.lret (v := 3328) hx hb hr (fun t ht hW => ⟨⟨3328, (st, sl), rfl, ⟨rfl, rfl⟩, mB.of ht hP⟩, hS.F ht⟩) hS.2.2 dX12_wordOf_171
set_option maxHeartbeats 4000000 in
set_option maxRecDepth 100000 in
theorem f_wordOf4 (l : Launch) (dC : Nat → ClassId) (dI : Nat → Nat → Nat) (ar : Nat → Nat) (cy : Nat → ClassId) (sz : Nat) (hN : MN ar) (st : Nat → Nat → Int32) (sl : Nat → Nat → Int64) (hI : MI st) : Met l yX12_wordOf wsX12_wordOf ({ frames := 1, cells := 0, slots := 0, locals := 28 }) (va_Pc [.int 4] (mPre dC dI ar cy sz st sl)) (va_Ql (fun (r : Int64) (x : MT) => x = (st, sl) ∧ (r = 131360)) (mB dC dI ar cy) (MA ar sz)) 0 0 (MA ar sz) := by
  refine Met.ofW (cc := cX12_wordOf) (maxL := 1) (ret := (some .long)) (by decide) rfl ?_
  intro p9 e s m9 args below meth c9 s₁ B9 hml hv
  obtain ⟨rfl, hsz, hP, hK⟩ := hv
  have hx := B9.exec
  have hb := B9.bytes
  have hr := B9.returns
  have hts := atoms_spec (ws := wsX12_wordOf) B9.pre
  have hown : s.vm.findClass RX12 = some m9.cls := findClass_of_methodNamed B9.named
  subst hsz
  have hS : va_S (MA ar s.heap.size) s.heap s.heap [] := va_S.rf
  have hG : MG [1, 2, 3, 4, 5, 6, 7, 8, 9, 10, 11, 12, 13, 14, 15, 16, 17, 19, 20, 21, 22, 23] st st := MG.rf hI
  have hl := lv_entry ([.int 4]) (n := 1) (Nat.le_of_ble_eq_true rfl)
  rw [lg_entry_eq]
  generalize (lg_sl ([.int 4]) ++ List.replicate (1 - (lg_sl ([.int 4])).length) Slot.unset).toArray = ls at hl ⊢
  have hl : lv_has ls 1 [(0, .int 4)] := hl
  clear hI
  refine lv_iload_n hx hb dX12_wordOf_0 rfl (lv_at hl 0 rfl) ?_
  refine lv_tableIn (tgt := 172) hx hb dX12_wordOf_1 (by decide) (by decide) rfl (by decide) ?_
  refine lv_bipush (v := 102) hx hb dX12_wordOf_172 (by decide) ?_
  refine lv_bipush (v := 114) hx hb dX12_wordOf_174 (by decide) ?_
  refine lv_bipush (v := 101) hx hb dX12_wordOf_176 (by decide) ?_
  refine lv_bipush (v := 101) hx hb dX12_wordOf_178 (by decide) ?_
  refine lv_iconst (v := 0) hx hb dX12_wordOf_180 (by decide) ?_
  refine lv_iconst (v := 0) hx hb dX12_wordOf_181 (by decide) ?_
  refine lv_iconst (v := 0) hx hb dX12_wordOf_182 (by decide) ?_
  refine va_calll (va_runS (As := [.int 102, .int 114, .int 101, .int 101, .int 0, .int 0, .int 0]) (rest := []) ⟨hx, hb, hml, hown, hts⟩ (f_spelt4 l dC dI ar cy _ hN st sl hG.1 ) (va_cwS 7 hts gX12_wordOf_X12_spelt rfl rfl rfl (by decide +kernel) ⟨Nat.le_of_ble_eq_true rfl, Nat.le_of_ble_eq_true rfl⟩) ⟨fun a U g mk q => ⟨q.1, mPre.blind q.2⟩, fun U hU hW => ⟨rfl, mPre.of hP hK hU hW⟩⟩ rfl rfl hl.1 rfl (lv_room (Nat.le_of_ble_eq_true rfl)) dX12_wordOf_183 ⟨Nat.le_of_ble_eq_true rfl, Nat.le_of_ble_eq_true rfl⟩) hS (fun q _ h => MA.le hS.1 q h) (MA.le hS.1) (fun r1 x t H locs ht hvm hw hB9 _ _ hS => ?_)
  have hP := mB.at ht hB9
  clear hB9 ht hvm
  obtain ⟨rfl, hw⟩ := hw
  have hP : va_P (dC, dI) vwCl (mw ar cy st sl) _ := hP
  obtain rfl := hw
  exact W.lret (v := 131360) hx hb hr (fun t ht hW => ⟨⟨131360, (st, sl), rfl, ⟨rfl, rfl⟩, mB.of ht hP⟩, hS.F ht⟩) hS.2.2 dX12_wordOf_186
set_option maxHeartbeats 4000000 in
set_option maxRecDepth 100000 in
theorem f_wordOf5 (l : Launch) (dC : Nat → ClassId) (dI : Nat → Nat → Nat) (ar : Nat → Nat) (cy : Nat → ClassId) (sz : Nat) (hN : MN ar) (st : Nat → Nat → Int32) (sl : Nat → Nat → Int64) (hI : MI st) : Met l yX12_wordOf wsX12_wordOf ({ frames := 1, cells := 0, slots := 0, locals := 28 }) (va_Pc [.int 5] (mPre dC dI ar cy sz st sl)) (va_Ql (fun (r : Int64) (x : MT) => x = (st, sl) ∧ (r = 380741)) (mB dC dI ar cy) (MA ar sz)) 0 0 (MA ar sz) := by
  refine Met.ofW (cc := cX12_wordOf) (maxL := 1) (ret := (some .long)) (by decide) rfl ?_
  intro p9 e s m9 args below meth c9 s₁ B9 hml hv
  obtain ⟨rfl, hsz, hP, hK⟩ := hv
  have hx := B9.exec
  have hb := B9.bytes
  have hr := B9.returns
  have hts := atoms_spec (ws := wsX12_wordOf) B9.pre
  have hown : s.vm.findClass RX12 = some m9.cls := findClass_of_methodNamed B9.named
  subst hsz
  have hS : va_S (MA ar s.heap.size) s.heap s.heap [] := va_S.rf
  have hG : MG [1, 2, 3, 4, 5, 6, 7, 8, 9, 10, 11, 12, 13, 14, 15, 16, 17, 19, 20, 21, 22, 23] st st := MG.rf hI
  have hl := lv_entry ([.int 5]) (n := 1) (Nat.le_of_ble_eq_true rfl)
  rw [lg_entry_eq]
  generalize (lg_sl ([.int 5]) ++ List.replicate (1 - (lg_sl ([.int 5])).length) Slot.unset).toArray = ls at hl ⊢
  have hl : lv_has ls 1 [(0, .int 5)] := hl
  clear hI
  refine lv_iload_n hx hb dX12_wordOf_0 rfl (lv_at hl 0 rfl) ?_
  refine lv_tableIn (tgt := 187) hx hb dX12_wordOf_1 (by decide) (by decide) rfl (by decide) ?_
  refine lv_bipush (v := 115) hx hb dX12_wordOf_187 (by decide) ?_
  refine lv_bipush (v := 105) hx hb dX12_wordOf_189 (by decide) ?_
  refine lv_bipush (v := 103) hx hb dX12_wordOf_191 (by decide) ?_
  refine lv_bipush (v := 110) hx hb dX12_wordOf_193 (by decide) ?_
  refine lv_iconst (v := 0) hx hb dX12_wordOf_195 (by decide) ?_
  refine lv_iconst (v := 0) hx hb dX12_wordOf_196 (by decide) ?_
  refine lv_iconst (v := 0) hx hb dX12_wordOf_197 (by decide) ?_
  refine va_calll (va_runS (As := [.int 115, .int 105, .int 103, .int 110, .int 0, .int 0, .int 0]) (rest := []) ⟨hx, hb, hml, hown, hts⟩ (f_spelt5 l dC dI ar cy _ hN st sl hG.1 ) (va_cwS 7 hts gX12_wordOf_X12_spelt rfl rfl rfl (by decide +kernel) ⟨Nat.le_of_ble_eq_true rfl, Nat.le_of_ble_eq_true rfl⟩) ⟨fun a U g mk q => ⟨q.1, mPre.blind q.2⟩, fun U hU hW => ⟨rfl, mPre.of hP hK hU hW⟩⟩ rfl rfl hl.1 rfl (lv_room (Nat.le_of_ble_eq_true rfl)) dX12_wordOf_198 ⟨Nat.le_of_ble_eq_true rfl, Nat.le_of_ble_eq_true rfl⟩) hS (fun q _ h => MA.le hS.1 q h) (MA.le hS.1) (fun r1 x t H locs ht hvm hw hB9 _ _ hS => ?_)
  have hP := mB.at ht hB9
  clear hB9 ht hvm
  obtain ⟨rfl, hw⟩ := hw
  have hP : va_P (dC, dI) vwCl (mw ar cy st sl) _ := hP
  obtain rfl := hw
  exact W.lret (v := 380741) hx hb hr (fun t ht hW => ⟨⟨380741, (st, sl), rfl, ⟨rfl, rfl⟩, mB.of ht hP⟩, hS.F ht⟩) hS.2.2 dX12_wordOf_201
set_option maxHeartbeats 4000000 in
set_option maxRecDepth 100000 in
theorem f_wordOf6 (l : Launch) (dC : Nat → ClassId) (dI : Nat → Nat → Nat) (ar : Nat → Nat) (cy : Nat → ClassId) (sz : Nat) (hN : MN ar) (st : Nat → Nat → Int32) (sl : Nat → Nat → Int64) (hI : MI st) : Met l yX12_wordOf wsX12_wordOf ({ frames := 1, cells := 0, slots := 0, locals := 28 }) (va_Pc [.int 6] (mPre dC dI ar cy sz st sl)) (va_Ql (fun (r : Int64) (x : MT) => x = (st, sl) ∧ (r = 776813)) (mB dC dI ar cy) (MA ar sz)) 0 0 (MA ar sz) := by
  refine Met.ofW (cc := cX12_wordOf) (maxL := 1) (ret := (some .long)) (by decide) rfl ?_
  intro p9 e s m9 args below meth c9 s₁ B9 hml hv
  obtain ⟨rfl, hsz, hP, hK⟩ := hv
  have hx := B9.exec
  have hb := B9.bytes
  have hr := B9.returns
  have hts := atoms_spec (ws := wsX12_wordOf) B9.pre
  have hown : s.vm.findClass RX12 = some m9.cls := findClass_of_methodNamed B9.named
  subst hsz
  have hS : va_S (MA ar s.heap.size) s.heap s.heap [] := va_S.rf
  have hG : MG [1, 2, 3, 4, 5, 6, 7, 8, 9, 10, 11, 12, 13, 14, 15, 16, 17, 19, 20, 21, 22, 23] st st := MG.rf hI
  have hl := lv_entry ([.int 6]) (n := 1) (Nat.le_of_ble_eq_true rfl)
  rw [lg_entry_eq]
  generalize (lg_sl ([.int 6]) ++ List.replicate (1 - (lg_sl ([.int 6])).length) Slot.unset).toArray = ls at hl ⊢
  have hl : lv_has ls 1 [(0, .int 6)] := hl
  clear hI
  refine lv_iload_n hx hb dX12_wordOf_0 rfl (lv_at hl 0 rfl) ?_
  refine lv_tableIn (tgt := 202) hx hb dX12_wordOf_1 (by decide) (by decide) rfl (by decide) ?_
  refine lv_bipush (v := 97) hx hb dX12_wordOf_202 (by decide) ?_
  refine lv_bipush (v := 108) hx hb dX12_wordOf_204 (by decide) ?_
  refine lv_bipush (v := 108) hx hb dX12_wordOf_206 (by decide) ?_
  refine lv_bipush (v := 111) hx hb dX12_wordOf_208 (by decide) ?_
  refine lv_bipush (v := 119) hx hb dX12_wordOf_210 (by decide) ?_
  refine lv_iconst (v := 0) hx hb dX12_wordOf_212 (by decide) ?_
  refine lv_iconst (v := 0) hx hb dX12_wordOf_213 (by decide) ?_
  refine va_calll (va_runS (As := [.int 97, .int 108, .int 108, .int 111, .int 119, .int 0, .int 0]) (rest := []) ⟨hx, hb, hml, hown, hts⟩ (f_spelt6 l dC dI ar cy _ hN st sl hG.1 ) (va_cwS 7 hts gX12_wordOf_X12_spelt rfl rfl rfl (by decide +kernel) ⟨Nat.le_of_ble_eq_true rfl, Nat.le_of_ble_eq_true rfl⟩) ⟨fun a U g mk q => ⟨q.1, mPre.blind q.2⟩, fun U hU hW => ⟨rfl, mPre.of hP hK hU hW⟩⟩ rfl rfl hl.1 rfl (lv_room (Nat.le_of_ble_eq_true rfl)) dX12_wordOf_214 ⟨Nat.le_of_ble_eq_true rfl, Nat.le_of_ble_eq_true rfl⟩) hS (fun q _ h => MA.le hS.1 q h) (MA.le hS.1) (fun r1 x t H locs ht hvm hw hB9 _ _ hS => ?_)
  have hP := mB.at ht hB9
  clear hB9 ht hvm
  obtain ⟨rfl, hw⟩ := hw
  have hP : va_P (dC, dI) vwCl (mw ar cy st sl) _ := hP
  obtain rfl := hw
  exact W.lret (v := 776813) hx hb hr (fun t ht hW => ⟨⟨776813, (st, sl), rfl, ⟨rfl, rfl⟩, mB.of ht hP⟩, hS.F ht⟩) hS.2.2 dX12_wordOf_217
set_option maxHeartbeats 4000000 in
set_option maxRecDepth 100000 in
theorem f_wordOf7 (l : Launch) (dC : Nat → ClassId) (dI : Nat → Nat → Nat) (ar : Nat → Nat) (cy : Nat → ClassId) (sz : Nat) (hN : MN ar) (st : Nat → Nat → Int32) (sl : Nat → Nat → Int64) (hI : MI st) : Met l yX12_wordOf wsX12_wordOf ({ frames := 1, cells := 0, slots := 0, locals := 28 }) (va_Pc [.int 7] (mPre dC dI ar cy sz st sl)) (va_Ql (fun (r : Int64) (x : MT) => x = (st, sl) ∧ (r = 94421056)) (mB dC dI ar cy) (MA ar sz)) 0 0 (MA ar sz) := by
  refine Met.ofW (cc := cX12_wordOf) (maxL := 1) (ret := (some .long)) (by decide) rfl ?_
  intro p9 e s m9 args below meth c9 s₁ B9 hml hv
  obtain ⟨rfl, hsz, hP, hK⟩ := hv
  have hx := B9.exec
  have hb := B9.bytes
  have hr := B9.returns
  have hts := atoms_spec (ws := wsX12_wordOf) B9.pre
  have hown : s.vm.findClass RX12 = some m9.cls := findClass_of_methodNamed B9.named
  subst hsz
  have hS : va_S (MA ar s.heap.size) s.heap s.heap [] := va_S.rf
  have hG : MG [1, 2, 3, 4, 5, 6, 7, 8, 9, 10, 11, 12, 13, 14, 15, 16, 17, 19, 20, 21, 22, 23] st st := MG.rf hI
  have hl := lv_entry ([.int 7]) (n := 1) (Nat.le_of_ble_eq_true rfl)
  rw [lg_entry_eq]
  generalize (lg_sl ([.int 7]) ++ List.replicate (1 - (lg_sl ([.int 7])).length) Slot.unset).toArray = ls at hl ⊢
  have hl : lv_has ls 1 [(0, .int 7)] := hl
  clear hI
  refine lv_iload_n hx hb dX12_wordOf_0 rfl (lv_at hl 0 rfl) ?_
  refine lv_tableIn (tgt := 218) hx hb dX12_wordOf_1 (by decide) (by decide) rfl (by decide) ?_
  refine lv_bipush (v := 102) hx hb dX12_wordOf_218 (by decide) ?_
  refine lv_bipush (v := 111) hx hb dX12_wordOf_220 (by decide) ?_
  refine lv_bipush (v := 114) hx hb dX12_wordOf_222 (by decide) ?_
  refine lv_bipush (v := 98) hx hb dX12_wordOf_224 (by decide) ?_
  refine lv_bipush (v := 105) hx hb dX12_wordOf_226 (by decide) ?_
  refine lv_bipush (v := 100) hx hb dX12_wordOf_228 (by decide) ?_
  refine lv_iconst (v := 0) hx hb dX12_wordOf_230 (by decide) ?_
  refine va_calll (va_runS (As := [.int 102, .int 111, .int 114, .int 98, .int 105, .int 100, .int 0]) (rest := []) ⟨hx, hb, hml, hown, hts⟩ (f_spelt7 l dC dI ar cy _ hN st sl hG.1 ) (va_cwS 7 hts gX12_wordOf_X12_spelt rfl rfl rfl (by decide +kernel) ⟨Nat.le_of_ble_eq_true rfl, Nat.le_of_ble_eq_true rfl⟩) ⟨fun a U g mk q => ⟨q.1, mPre.blind q.2⟩, fun U hU hW => ⟨rfl, mPre.of hP hK hU hW⟩⟩ rfl rfl hl.1 rfl (lv_room (Nat.le_of_ble_eq_true rfl)) dX12_wordOf_231 ⟨Nat.le_of_ble_eq_true rfl, Nat.le_of_ble_eq_true rfl⟩) hS (fun q _ h => MA.le hS.1 q h) (MA.le hS.1) (fun r1 x t H locs ht hvm hw hB9 _ _ hS => ?_)
  have hP := mB.at ht hB9
  clear hB9 ht hvm
  obtain ⟨rfl, hw⟩ := hw
  have hP : va_P (dC, dI) vwCl (mw ar cy st sl) _ := hP
  obtain rfl := hw
  exact W.lret (v := 94421056) hx hb hr (fun t ht hW => ⟨⟨94421056, (st, sl), rfl, ⟨rfl, rfl⟩, mB.of ht hP⟩, hS.F ht⟩) hS.2.2 dX12_wordOf_234
set_option maxHeartbeats 4000000 in
set_option maxRecDepth 100000 in
theorem f_wordOf8 (l : Launch) (dC : Nat → ClassId) (dI : Nat → Nat → Nat) (ar : Nat → Nat) (cy : Nat → ClassId) (sz : Nat) (hN : MN ar) (st : Nat → Nat → Int32) (sl : Nat → Nat → Int64) (hI : MI st) : Met l yX12_wordOf wsX12_wordOf ({ frames := 1, cells := 0, slots := 0, locals := 28 }) (va_Pc [.int 8] (mPre dC dI ar cy sz st sl)) (va_Ql (fun (r : Int64) (x : MT) => x = (st, sl) ∧ (r = 3297353)) (mB dC dI ar cy) (MA ar sz)) 0 0 (MA ar sz) := by
  refine Met.ofW (cc := cX12_wordOf) (maxL := 1) (ret := (some .long)) (by decide) rfl ?_
  intro p9 e s m9 args below meth c9 s₁ B9 hml hv
  obtain ⟨rfl, hsz, hP, hK⟩ := hv
  have hx := B9.exec
  have hb := B9.bytes
  have hr := B9.returns
  have hts := atoms_spec (ws := wsX12_wordOf) B9.pre
  have hown : s.vm.findClass RX12 = some m9.cls := findClass_of_methodNamed B9.named
  subst hsz
  have hS : va_S (MA ar s.heap.size) s.heap s.heap [] := va_S.rf
  have hG : MG [1, 2, 3, 4, 5, 6, 7, 8, 9, 10, 11, 12, 13, 14, 15, 16, 17, 19, 20, 21, 22, 23] st st := MG.rf hI
  have hl := lv_entry ([.int 8]) (n := 1) (Nat.le_of_ble_eq_true rfl)
  rw [lg_entry_eq]
  generalize (lg_sl ([.int 8]) ++ List.replicate (1 - (lg_sl ([.int 8])).length) Slot.unset).toArray = ls at hl ⊢
  have hl : lv_has ls 1 [(0, .int 8)] := hl
  clear hI
  refine lv_iload_n hx hb dX12_wordOf_0 rfl (lv_at hl 0 rfl) ?_
  refine lv_tableIn (tgt := 235) hx hb dX12_wordOf_1 (by decide) (by decide) rfl (by decide) ?_
  refine lv_bipush (v := 102) hx hb dX12_wordOf_235 (by decide) ?_
  refine lv_bipush (v := 101) hx hb dX12_wordOf_237 (by decide) ?_
  refine lv_bipush (v := 110) hx hb dX12_wordOf_239 (by decide) ?_
  refine lv_bipush (v := 99) hx hb dX12_wordOf_241 (by decide) ?_
  refine lv_bipush (v := 101) hx hb dX12_wordOf_243 (by decide) ?_
  refine lv_iconst (v := 0) hx hb dX12_wordOf_245 (by decide) ?_
  refine lv_iconst (v := 0) hx hb dX12_wordOf_246 (by decide) ?_
  refine va_calll (va_runS (As := [.int 102, .int 101, .int 110, .int 99, .int 101, .int 0, .int 0]) (rest := []) ⟨hx, hb, hml, hown, hts⟩ (f_spelt8 l dC dI ar cy _ hN st sl hG.1 ) (va_cwS 7 hts gX12_wordOf_X12_spelt rfl rfl rfl (by decide +kernel) ⟨Nat.le_of_ble_eq_true rfl, Nat.le_of_ble_eq_true rfl⟩) ⟨fun a U g mk q => ⟨q.1, mPre.blind q.2⟩, fun U hU hW => ⟨rfl, mPre.of hP hK hU hW⟩⟩ rfl rfl hl.1 rfl (lv_room (Nat.le_of_ble_eq_true rfl)) dX12_wordOf_247 ⟨Nat.le_of_ble_eq_true rfl, Nat.le_of_ble_eq_true rfl⟩) hS (fun q _ h => MA.le hS.1 q h) (MA.le hS.1) (fun r1 x t H locs ht hvm hw hB9 _ _ hS => ?_)
  have hP := mB.at ht hB9
  clear hB9 ht hvm
  obtain ⟨rfl, hw⟩ := hw
  have hP : va_P (dC, dI) vwCl (mw ar cy st sl) _ := hP
  obtain rfl := hw
  exact W.lret (v := 3297353) hx hb hr (fun t ht hW => ⟨⟨3297353, (st, sl), rfl, ⟨rfl, rfl⟩, mB.of ht hP⟩, hS.F ht⟩) hS.2.2 dX12_wordOf_250
set_option maxHeartbeats 4000000 in
set_option maxRecDepth 100000 in
theorem f_wordOf9 (l : Launch) (dC : Nat → ClassId) (dI : Nat → Nat → Nat) (ar : Nat → Nat) (cy : Nat → ClassId) (sz : Nat) (hN : MN ar) (st : Nat → Nat → Int32) (sl : Nat → Nat → Int64) (hI : MI st) : Met l yX12_wordOf wsX12_wordOf ({ frames := 1, cells := 0, slots := 0, locals := 28 }) (va_Pc [.int 9] (mPre dC dI ar cy sz st sl)) (va_Ql (fun (r : Int64) (x : MT) => x = (st, sl) ∧ (r = 161437)) (mB dC dI ar cy) (MA ar sz)) 0 0 (MA ar sz) := by
  refine Met.ofW (cc := cX12_wordOf) (maxL := 1) (ret := (some .long)) (by decide) rfl ?_
  intro p9 e s m9 args below meth c9 s₁ B9 hml hv
  obtain ⟨rfl, hsz, hP, hK⟩ := hv
  have hx := B9.exec
  have hb := B9.bytes
  have hr := B9.returns
  have hts := atoms_spec (ws := wsX12_wordOf) B9.pre
  have hown : s.vm.findClass RX12 = some m9.cls := findClass_of_methodNamed B9.named
  subst hsz
  have hS : va_S (MA ar s.heap.size) s.heap s.heap [] := va_S.rf
  have hG : MG [1, 2, 3, 4, 5, 6, 7, 8, 9, 10, 11, 12, 13, 14, 15, 16, 17, 19, 20, 21, 22, 23] st st := MG.rf hI
  have hl := lv_entry ([.int 9]) (n := 1) (Nat.le_of_ble_eq_true rfl)
  rw [lg_entry_eq]
  generalize (lg_sl ([.int 9]) ++ List.replicate (1 - (lg_sl ([.int 9])).length) Slot.unset).toArray = ls at hl ⊢
  have hl : lv_has ls 1 [(0, .int 9)] := hl
  clear hI
  refine lv_iload_n hx hb dX12_wordOf_0 rfl (lv_at hl 0 rfl) ?_
  refine lv_tableIn (tgt := 251) hx hb dX12_wordOf_1 (by decide) (by decide) rfl (by decide) ?_
  refine lv_bipush (v := 104) hx hb dX12_wordOf_251 (by decide) ?_
  refine lv_bipush (v := 101) hx hb dX12_wordOf_253 (by decide) ?_
  refine lv_bipush (v := 108) hx hb dX12_wordOf_255 (by decide) ?_
  refine lv_bipush (v := 100) hx hb dX12_wordOf_257 (by decide) ?_
  refine lv_iconst (v := 0) hx hb dX12_wordOf_259 (by decide) ?_
  refine lv_iconst (v := 0) hx hb dX12_wordOf_260 (by decide) ?_
  refine lv_iconst (v := 0) hx hb dX12_wordOf_261 (by decide) ?_
  refine va_calll (va_runS (As := [.int 104, .int 101, .int 108, .int 100, .int 0, .int 0, .int 0]) (rest := []) ⟨hx, hb, hml, hown, hts⟩ (f_spelt9 l dC dI ar cy _ hN st sl hG.1 ) (va_cwS 7 hts gX12_wordOf_X12_spelt rfl rfl rfl (by decide +kernel) ⟨Nat.le_of_ble_eq_true rfl, Nat.le_of_ble_eq_true rfl⟩) ⟨fun a U g mk q => ⟨q.1, mPre.blind q.2⟩, fun U hU hW => ⟨rfl, mPre.of hP hK hU hW⟩⟩ rfl rfl hl.1 rfl (lv_room (Nat.le_of_ble_eq_true rfl)) dX12_wordOf_262 ⟨Nat.le_of_ble_eq_true rfl, Nat.le_of_ble_eq_true rfl⟩) hS (fun q _ h => MA.le hS.1 q h) (MA.le hS.1) (fun r1 x t H locs ht hvm hw hB9 _ _ hS => ?_)
  have hP := mB.at ht hB9
  clear hB9 ht hvm
  obtain ⟨rfl, hw⟩ := hw
  have hP : va_P (dC, dI) vwCl (mw ar cy st sl) _ := hP
  obtain rfl := hw
  exact W.lret (v := 161437) hx hb hr (fun t ht hW => ⟨⟨161437, (st, sl), rfl, ⟨rfl, rfl⟩, mB.of ht hP⟩, hS.F ht⟩) hS.2.2 dX12_wordOf_265
set_option maxHeartbeats 4000000 in
set_option maxRecDepth 100000 in
theorem f_wordOf10 (l : Launch) (dC : Nat → ClassId) (dI : Nat → Nat → Nat) (ar : Nat → Nat) (cy : Nat → ClassId) (sz : Nat) (hN : MN ar) (st : Nat → Nat → Int32) (sl : Nat → Nat → Int64) (hI : MI st) : Met l yX12_wordOf wsX12_wordOf ({ frames := 1, cells := 0, slots := 0, locals := 28 }) (va_Pc [.int 10] (mPre dC dI ar cy sz st sl)) (va_Ql (fun (r : Int64) (x : MT) => x = (st, sl) ∧ (r = 6683990)) (mB dC dI ar cy) (MA ar sz)) 0 0 (MA ar sz) := by
  refine Met.ofW (cc := cX12_wordOf) (maxL := 1) (ret := (some .long)) (by decide) rfl ?_
  intro p9 e s m9 args below meth c9 s₁ B9 hml hv
  obtain ⟨rfl, hsz, hP, hK⟩ := hv
  have hx := B9.exec
  have hb := B9.bytes
  have hr := B9.returns
  have hts := atoms_spec (ws := wsX12_wordOf) B9.pre
  have hown : s.vm.findClass RX12 = some m9.cls := findClass_of_methodNamed B9.named
  subst hsz
  have hS : va_S (MA ar s.heap.size) s.heap s.heap [] := va_S.rf
  have hG : MG [1, 2, 3, 4, 5, 6, 7, 8, 9, 10, 11, 12, 13, 14, 15, 16, 17, 19, 20, 21, 22, 23] st st := MG.rf hI
  have hl := lv_entry ([.int 10]) (n := 1) (Nat.le_of_ble_eq_true rfl)
  rw [lg_entry_eq]
  generalize (lg_sl ([.int 10]) ++ List.replicate (1 - (lg_sl ([.int 10])).length) Slot.unset).toArray = ls at hl ⊢
  have hl : lv_has ls 1 [(0, .int 10)] := hl
  clear hI
  refine lv_iload_n hx hb dX12_wordOf_0 rfl (lv_at hl 0 rfl) ?_
  refine lv_tableIn (tgt := 266) hx hb dX12_wordOf_1 (by decide) (by decide) rfl (by decide) ?_
  refine lv_bipush (v := 108) hx hb dX12_wordOf_266 (by decide) ?_
  refine lv_bipush (v := 111) hx hb dX12_wordOf_268 (by decide) ?_
  refine lv_bipush (v := 111) hx hb dX12_wordOf_270 (by decide) ?_
  refine lv_bipush (v := 115) hx hb dX12_wordOf_272 (by decide) ?_
  refine lv_bipush (v := 101) hx hb dX12_wordOf_274 (by decide) ?_
  refine lv_iconst (v := 0) hx hb dX12_wordOf_276 (by decide) ?_
  refine lv_iconst (v := 0) hx hb dX12_wordOf_277 (by decide) ?_
  refine va_calll (va_runS (As := [.int 108, .int 111, .int 111, .int 115, .int 101, .int 0, .int 0]) (rest := []) ⟨hx, hb, hml, hown, hts⟩ (f_spelt10 l dC dI ar cy _ hN st sl hG.1 ) (va_cwS 7 hts gX12_wordOf_X12_spelt rfl rfl rfl (by decide +kernel) ⟨Nat.le_of_ble_eq_true rfl, Nat.le_of_ble_eq_true rfl⟩) ⟨fun a U g mk q => ⟨q.1, mPre.blind q.2⟩, fun U hU hW => ⟨rfl, mPre.of hP hK hU hW⟩⟩ rfl rfl hl.1 rfl (lv_room (Nat.le_of_ble_eq_true rfl)) dX12_wordOf_278 ⟨Nat.le_of_ble_eq_true rfl, Nat.le_of_ble_eq_true rfl⟩) hS (fun q _ h => MA.le hS.1 q h) (MA.le hS.1) (fun r1 x t H locs ht hvm hw hB9 _ _ hS => ?_)
  have hP := mB.at ht hB9
  clear hB9 ht hvm
  obtain ⟨rfl, hw⟩ := hw
  have hP : va_P (dC, dI) vwCl (mw ar cy st sl) _ := hP
  obtain rfl := hw
  exact W.lret (v := 6683990) hx hb hr (fun t ht hW => ⟨⟨6683990, (st, sl), rfl, ⟨rfl, rfl⟩, mB.of ht hP⟩, hS.F ht⟩) hS.2.2 dX12_wordOf_281
set_option maxHeartbeats 4000000 in
set_option maxRecDepth 100000 in
theorem f_wordOf11 (l : Launch) (dC : Nat → ClassId) (dI : Nat → Nat → Nat) (ar : Nat → Nat) (cy : Nat → ClassId) (sz : Nat) (hN : MN ar) (st : Nat → Nat → Int32) (sl : Nat → Nat → Int64) (hI : MI st) : Met l yX12_wordOf wsX12_wordOf ({ frames := 1, cells := 0, slots := 0, locals := 28 }) (va_Pc [.int 11] (mPre dC dI ar cy sz st sl)) (va_Ql (fun (r : Int64) (x : MT) => x = (st, sl) ∧ (r = 1899199)) (mB dC dI ar cy) (MA ar sz)) 0 0 (MA ar sz) := by
  refine Met.ofW (cc := cX12_wordOf) (maxL := 1) (ret := (some .long)) (by decide) rfl ?_
  intro p9 e s m9 args below meth c9 s₁ B9 hml hv
  obtain ⟨rfl, hsz, hP, hK⟩ := hv
  have hx := B9.exec
  have hb := B9.bytes
  have hr := B9.returns
  have hts := atoms_spec (ws := wsX12_wordOf) B9.pre
  have hown : s.vm.findClass RX12 = some m9.cls := findClass_of_methodNamed B9.named
  subst hsz
  have hS : va_S (MA ar s.heap.size) s.heap s.heap [] := va_S.rf
  have hG : MG [1, 2, 3, 4, 5, 6, 7, 8, 9, 10, 11, 12, 13, 14, 15, 16, 17, 19, 20, 21, 22, 23] st st := MG.rf hI
  have hl := lv_entry ([.int 11]) (n := 1) (Nat.le_of_ble_eq_true rfl)
  rw [lg_entry_eq]
  generalize (lg_sl ([.int 11]) ++ List.replicate (1 - (lg_sl ([.int 11])).length) Slot.unset).toArray = ls at hl ⊢
  have hl : lv_has ls 1 [(0, .int 11)] := hl
  clear hI
  refine lv_iload_n hx hb dX12_wordOf_0 rfl (lv_at hl 0 rfl) ?_
  refine lv_tableIn (tgt := 282) hx hb dX12_wordOf_1 (by decide) (by decide) rfl (by decide) ?_
  refine lv_bipush (v := 99) hx hb dX12_wordOf_282 (by decide) ?_
  refine lv_bipush (v := 111) hx hb dX12_wordOf_284 (by decide) ?_
  refine lv_bipush (v := 109) hx hb dX12_wordOf_286 (by decide) ?_
  refine lv_bipush (v := 101) hx hb dX12_wordOf_288 (by decide) ?_
  refine lv_bipush (v := 115) hx hb dX12_wordOf_290 (by decide) ?_
  refine lv_iconst (v := 0) hx hb dX12_wordOf_292 (by decide) ?_
  refine lv_iconst (v := 0) hx hb dX12_wordOf_293 (by decide) ?_
  refine va_calll (va_runS (As := [.int 99, .int 111, .int 109, .int 101, .int 115, .int 0, .int 0]) (rest := []) ⟨hx, hb, hml, hown, hts⟩ (f_spelt11 l dC dI ar cy _ hN st sl hG.1 ) (va_cwS 7 hts gX12_wordOf_X12_spelt rfl rfl rfl (by decide +kernel) ⟨Nat.le_of_ble_eq_true rfl, Nat.le_of_ble_eq_true rfl⟩) ⟨fun a U g mk q => ⟨q.1, mPre.blind q.2⟩, fun U hU hW => ⟨rfl, mPre.of hP hK hU hW⟩⟩ rfl rfl hl.1 rfl (lv_room (Nat.le_of_ble_eq_true rfl)) dX12_wordOf_294 ⟨Nat.le_of_ble_eq_true rfl, Nat.le_of_ble_eq_true rfl⟩) hS (fun q _ h => MA.le hS.1 q h) (MA.le hS.1) (fun r1 x t H locs ht hvm hw hB9 _ _ hS => ?_)
  have hP := mB.at ht hB9
  clear hB9 ht hvm
  obtain ⟨rfl, hw⟩ := hw
  have hP : va_P (dC, dI) vwCl (mw ar cy st sl) _ := hP
  obtain rfl := hw
  exact W.lret (v := 1899199) hx hb hr (fun t ht hW => ⟨⟨1899199, (st, sl), rfl, ⟨rfl, rfl⟩, mB.of ht hP⟩, hS.F ht⟩) hS.2.2 dX12_wordOf_297
set_option maxHeartbeats 4000000 in
set_option maxRecDepth 100000 in
theorem f_wordOf12 (l : Launch) (dC : Nat → ClassId) (dI : Nat → Nat → Nat) (ar : Nat → Nat) (cy : Nat → ClassId) (sz : Nat) (hN : MN ar) (st : Nat → Nat → Int32) (sl : Nat → Nat → Int64) (hI : MI st) : Met l yX12_wordOf wsX12_wordOf ({ frames := 1, cells := 0, slots := 0, locals := 28 }) (va_Pc [.int 12] (mPre dC dI ar cy sz st sl)) (va_Ql (fun (r : Int64) (x : MT) => x = (st, sl) ∧ (r = 2968)) (mB dC dI ar cy) (MA ar sz)) 0 0 (MA ar sz) := by
  refine Met.ofW (cc := cX12_wordOf) (maxL := 1) (ret := (some .long)) (by decide) rfl ?_
  intro p9 e s m9 args below meth c9 s₁ B9 hml hv
  obtain ⟨rfl, hsz, hP, hK⟩ := hv
  have hx := B9.exec
  have hb := B9.bytes
  have hr := B9.returns
  have hts := atoms_spec (ws := wsX12_wordOf) B9.pre
  have hown : s.vm.findClass RX12 = some m9.cls := findClass_of_methodNamed B9.named
  subst hsz
  have hS : va_S (MA ar s.heap.size) s.heap s.heap [] := va_S.rf
  have hG : MG [1, 2, 3, 4, 5, 6, 7, 8, 9, 10, 11, 12, 13, 14, 15, 16, 17, 19, 20, 21, 22, 23] st st := MG.rf hI
  have hl := lv_entry ([.int 12]) (n := 1) (Nat.le_of_ble_eq_true rfl)
  rw [lg_entry_eq]
  generalize (lg_sl ([.int 12]) ++ List.replicate (1 - (lg_sl ([.int 12])).length) Slot.unset).toArray = ls at hl ⊢
  have hl : lv_has ls 1 [(0, .int 12)] := hl
  clear hI
  refine lv_iload_n hx hb dX12_wordOf_0 rfl (lv_at hl 0 rfl) ?_
  refine lv_tableIn (tgt := 298) hx hb dX12_wordOf_1 (by decide) (by decide) rfl (by decide) ?_
  refine lv_bipush (v := 100) hx hb dX12_wordOf_298 (by decide) ?_
  refine lv_bipush (v := 97) hx hb dX12_wordOf_300 (by decide) ?_
  refine lv_bipush (v := 121) hx hb dX12_wordOf_302 (by decide) ?_
  refine lv_iconst (v := 0) hx hb dX12_wordOf_304 (by decide) ?_
  refine lv_iconst (v := 0) hx hb dX12_wordOf_305 (by decide) ?_
  refine lv_iconst (v := 0) hx hb dX12_wordOf_306 (by decide) ?_
  refine lv_iconst (v := 0) hx hb dX12_wordOf_307 (by decide) ?_
  refine va_calll (va_runS (As := [.int 100, .int 97, .int 121, .int 0, .int 0, .int 0, .int 0]) (rest := []) ⟨hx, hb, hml, hown, hts⟩ (f_spelt12 l dC dI ar cy _ hN st sl hG.1 ) (va_cwS 7 hts gX12_wordOf_X12_spelt rfl rfl rfl (by decide +kernel) ⟨Nat.le_of_ble_eq_true rfl, Nat.le_of_ble_eq_true rfl⟩) ⟨fun a U g mk q => ⟨q.1, mPre.blind q.2⟩, fun U hU hW => ⟨rfl, mPre.of hP hK hU hW⟩⟩ rfl rfl hl.1 rfl (lv_room (Nat.le_of_ble_eq_true rfl)) dX12_wordOf_308 ⟨Nat.le_of_ble_eq_true rfl, Nat.le_of_ble_eq_true rfl⟩) hS (fun q _ h => MA.le hS.1 q h) (MA.le hS.1) (fun r1 x t H locs ht hvm hw hB9 _ _ hS => ?_)
  have hP := mB.at ht hB9
  clear hB9 ht hvm
  obtain ⟨rfl, hw⟩ := hw
  have hP : va_P (dC, dI) vwCl (mw ar cy st sl) _ := hP
  obtain rfl := hw
  exact W.lret (v := 2968) hx hb hr (fun t ht hW => ⟨⟨2968, (st, sl), rfl, ⟨rfl, rfl⟩, mB.of ht hP⟩, hS.F ht⟩) hS.2.2 dX12_wordOf_311
set_option maxHeartbeats 4000000 in
set_option maxRecDepth 100000 in
theorem f_wordOf13 (l : Launch) (dC : Nat → ClassId) (dI : Nat → Nat → Nat) (ar : Nat → Nat) (cy : Nat → ClassId) (sz : Nat) (hN : MN ar) (st : Nat → Nat → Int32) (sl : Nat → Nat → Int64) (hI : MI st) : Met l yX12_wordOf wsX12_wordOf ({ frames := 1, cells := 0, slots := 0, locals := 28 }) (va_Pc [.int 13] (mPre dC dI ar cy sz st sl)) (va_Ql (fun (r : Int64) (x : MT) => x = (st, sl) ∧ (r = 423)) (mB dC dI ar cy) (MA ar sz)) 0 0 (MA ar sz) := by
  refine Met.ofW (cc := cX12_wordOf) (maxL := 1) (ret := (some .long)) (by decide) rfl ?_
  intro p9 e s m9 args below meth c9 s₁ B9 hml hv
  obtain ⟨rfl, hsz, hP, hK⟩ := hv
  have hx := B9.exec
  have hb := B9.bytes
  have hr := B9.returns
  have hts := atoms_spec (ws := wsX12_wordOf) B9.pre
  have hown : s.vm.findClass RX12 = some m9.cls := findClass_of_methodNamed B9.named
  subst hsz
  have hS : va_S (MA ar s.heap.size) s.heap s.heap [] := va_S.rf
  have hG : MG [1, 2, 3, 4, 5, 6, 7, 8, 9, 10, 11, 12, 13, 14, 15, 16, 17, 19, 20, 21, 22, 23] st st := MG.rf hI
  have hl := lv_entry ([.int 13]) (n := 1) (Nat.le_of_ble_eq_true rfl)
  rw [lg_entry_eq]
  generalize (lg_sl ([.int 13]) ++ List.replicate (1 - (lg_sl ([.int 13])).length) Slot.unset).toArray = ls at hl ⊢
  have hl : lv_has ls 1 [(0, .int 13)] := hl
  clear hI
  refine lv_iload_n hx hb dX12_wordOf_0 rfl (lv_at hl 0 rfl) ?_
  refine lv_tableIn (tgt := 312) hx hb dX12_wordOf_1 (by decide) (by decide) rfl (by decide) ?_
  refine lv_bipush (v := 111) hx hb dX12_wordOf_312 (by decide) ?_
  refine lv_bipush (v := 114) hx hb dX12_wordOf_314 (by decide) ?_
  refine lv_iconst (v := 0) hx hb dX12_wordOf_316 (by decide) ?_
  refine lv_iconst (v := 0) hx hb dX12_wordOf_317 (by decide) ?_
  refine lv_iconst (v := 0) hx hb dX12_wordOf_318 (by decide) ?_
  refine lv_iconst (v := 0) hx hb dX12_wordOf_319 (by decide) ?_
  refine lv_iconst (v := 0) hx hb dX12_wordOf_320 (by decide) ?_
  refine va_calll (va_runS (As := [.int 111, .int 114, .int 0, .int 0, .int 0, .int 0, .int 0]) (rest := []) ⟨hx, hb, hml, hown, hts⟩ (f_spelt13 l dC dI ar cy _ hN st sl hG.1 ) (va_cwS 7 hts gX12_wordOf_X12_spelt rfl rfl rfl (by decide +kernel) ⟨Nat.le_of_ble_eq_true rfl, Nat.le_of_ble_eq_true rfl⟩) ⟨fun a U g mk q => ⟨q.1, mPre.blind q.2⟩, fun U hU hW => ⟨rfl, mPre.of hP hK hU hW⟩⟩ rfl rfl hl.1 rfl (lv_room (Nat.le_of_ble_eq_true rfl)) dX12_wordOf_321 ⟨Nat.le_of_ble_eq_true rfl, Nat.le_of_ble_eq_true rfl⟩) hS (fun q _ h => MA.le hS.1 q h) (MA.le hS.1) (fun r1 x t H locs ht hvm hw hB9 _ _ hS => ?_)
  have hP := mB.at ht hB9
  clear hB9 ht hvm
  obtain ⟨rfl, hw⟩ := hw
  have hP : va_P (dC, dI) vwCl (mw ar cy st sl) _ := hP
  obtain rfl := hw
  exact W.lret (v := 423) hx hb hr (fun t ht hW => ⟨⟨423, (st, sl), rfl, ⟨rfl, rfl⟩, mB.of ht hP⟩, hS.F ht⟩) hS.2.2 dX12_wordOf_324
