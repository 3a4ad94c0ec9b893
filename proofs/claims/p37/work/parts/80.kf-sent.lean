set_option maxHeartbeats 4000000 in
set_option maxRecDepth 100000 in
theorem lc_sentence {p : Program} {e : Env} {s : State} {m : MethodId} {below : List Frame} {meth : Method} {c : Code} (l : Launch) {b L : Nat} {xs : Nat → Int32} (hL : L ≤ 3072) (C0 : lw_At p s m meth c b L xs) (dC : Nat → ClassId) (dI : Nat → Nat → Nat) (ad : Nat → Nat) (E : EP) (hEE : EC ad E) (hE : E (LF s) s s.heap) {A : Nat → Nat} {C : Nat → ClassId} {nb : Nat} {st : Nat → Nat → Int32} {sl : Nat → Nat → Int64} {so : Nat → XR} {ar : Nat → Nat} {cy : Nat → ClassId} {st2 : Nat → Nat → Int32} {sl2 : Nat → Nat → Int64} {a0 o : Nat} {yo : ClassId} {H : Heap} {locs : List Loc} {ls : Array Slot} (i : Nat) (hi : i + 6 ≤ L) (hA0 : A 0 = a0) (h : LH dC dI s H A C nb st sl so ar cy st2 sl2 o yo) (hn : LN ad nb st sl so st2 sl2) (hS : va_S (LF s) s.heap H locs) (hl : lv_has ls 8 [(4, .int (nI i)), (3, .ref o), (2, .ref (ar 0)), (1, .ref a0), (0, .ref b)]) {nc ns : Nat} (h1 : nc + 5 ≤ room_1.cells) (h2 : ns + 170 ≤ room_1.slots) {Q : State → Prop} (kk : LK p l e s m b below meth c dC dI ad ar cy a0 o yo i (nc + 5) (ns + 170) 1393 Q) : W p l e room_1 s m #[Value.ref b] below meth c H locs nc ns Q (F0 m 1280 ls []) := by
  subst hA0
  obtain ⟨hx, hb, hr, hml, hown, hts, hX, hbl, hlocks, hgv⟩ := id C0
  have hbA : ¬ LF s b := fun z => absurd hbl (Nat.not_lt.mpr z)
  obtain ⟨g, hg0, hg1, hg2, B, hgB⟩ := hn.2.2.1
  refine lv_aload_n hx hb dL_law_1280 rfl (lv_at hl 3 rfl) ?_
  obtain ⟨c9, n9, hcn9, hrn9⟩ := hn.2.2.2.2.2.1
  refine va_calli (va_runV (As := []) (rest := []) ⟨hx, hb, hml, hown, hts⟩ (x_X11_sentenceB l dC dI ad E hEE A C nb H.size h.1.1 st sl so B g c9 n9 hn.1.1 hn.1.2.1 hn.1.2.2.2 hg1 hg0 (fun j hj => ⟨(hgB j hj).1, (hgB j hj).2.2⟩) hcn9) (cwV 0 hts gT_X11_sentence_172 rfl rfl rfl (by decide +kernel) ⟨Nat.le_of_ble_eq_true rfl, Nat.le_of_ble_eq_true rfl⟩) ⟨fun a U g mk q => ⟨q.1, xPre.blind hEE q.2⟩, va_recv h.2.2.2.2.1 h.2.1 (ci := 10) (q0 := 0) rfl (xw_is (r := 0) (by omega) (xc_fix (r := 0) (by omega))), fun U hU hW => ⟨rfl, xPre.ofg hEE h.2.1 h.2.2.2.2.1 hE hS (h.fx hS) hU hW⟩⟩ rfl rfl hl.1 rfl (lv_room (Nat.le_of_ble_eq_true rfl)) dL_law_1281 ⟨by omega, by omega⟩) hS (fun q _ z => h.fx hS q z) (h.fx hS) (fun r2 x3 t1 H4 locs ht hvm hwx hB hz1 hk1 hS => ?_)
  have h := h.cx (xB.at ht hB) hk1
  clear hB hz1 hk1 ht hvm
  refine lv_aload_n hx hb dL_law_1284 rfl (lv_at hl 2 rfl) ?_
  refine va_calli (va_runV (As := []) (rest := [.int r2]) ⟨hx, hb, hml, hown, hts⟩ (m_sentenceB l dC dI ar cy H4.size h.1.2.1 st2 sl2 B g c9 n9 hn.2.1.1 hn.2.1.2.2.2 hg2 hg0 (fun j hj => ⟨(hgB j hj).2.1, (hgB j hj).2.2⟩) hrn9) (cwV 0 hts gT_X12_sentence_175 rfl rfl rfl (by decide +kernel) ⟨Nat.le_of_ble_eq_true rfl, Nat.le_of_ble_eq_true rfl⟩) ⟨fun a U g mk q => ⟨q.1, mPre.blind q.2⟩, va_recv h.2.2.2.2.2.1 h.2.2.1 (ci := 11) (q0 := 0) rfl rfl, fun U hU hW => ⟨rfl, mPre.of h.2.2.1 h.2.2.2.2.2.1 hU hW⟩⟩ rfl rfl hl.1 rfl (lv_room (Nat.le_of_ble_eq_true rfl)) dL_law_1285 ⟨by omega, by omega⟩) hS (fun q _ z => h.fm hS q z) (h.fm hS) (fun r6 x7 t5 H8 locs ht hvm hwm hB hz1 hk1 hS => ?_)
  have h := h.cm (mB.at ht hB) hk1
  clear hB hz1 hk1 ht hvm
  have hrr : r2 = r6 := by
    exact hwx.2.trans hwm.2.symm
  obtain ⟨hwx, -⟩ := hwx
  obtain ⟨hwm, -⟩ := hwm
  subst hrr
  refine lv_icmp_eq (tgt := 1393) hx hb dL_law_1288 (by decide) (fun _ => ?_) (fun c9 => absurd rfl c9)
  obtain ⟨hM, hQ, hmf⟩ := hwm
  obtain ⟨hG, hLx, hso, hxf⟩ := hwx
  refine W.widen (k := nc + 5) (n := ns + 170) (by omega) (by omega) ?_
  exact kk _ _ _ _ _ _ _ _ _ _ _ rfl h ⟨⟨hG.1, hso.1, hn.1.2.2.1.mg hG (by decide), hxf.2⟩, ⟨hM.1, hmf.2.2 hn.2.1.2.1, hn.2.1.2.2.1.mg hM (by decide), hmf.2.1⟩, LN.cz hxf.1 hmf.1, ⟨hn.ck hG hM (by decide) (by decide), hn.2.2.2.2.ni (NI.rf.mg hG (by decide) (by decide) hLx) hM (by decide) (by decide) hQ (by decide) (by decide)⟩⟩ hS hl
