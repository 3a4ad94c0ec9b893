theorem zz_gt6 {L i : Nat} (hL : L ≤ 3072) (hi : i ≤ 3072) : nI L - 6 < nI i ↔ L < i + 6 := by
  by_cases h6 : 6 ≤ L
  · have e : nI L - 6 = nI (L - 6) := nI_subN (b := 6) h6 (by omega)
    rw [e, nI_ltI (by omega) (by omega)]
    omega
  · refine ⟨fun _ => by omega, fun _ => Int32.lt_of_lt_of_le (b := 0) ?_ (nI_pos' (by omega))⟩
    rcases (show L = 0 ∨ L = 1 ∨ L = 2 ∨ L = 3 ∨ L = 4 ∨ L = 5 by omega) with h | h | h | h | h | h <;> subst h <;> decide
theorem zz_64 {j : Nat} (h : j < 2 ^ 6) : j = 0 ∨ j = 1 ∨ j = 2 ∨ j = 3 ∨ j = 4 ∨ j = 5 ∨ j = 6 ∨ j = 7 ∨ j = 8 ∨ j = 9 ∨ j = 10 ∨ j = 11 ∨ j = 12 ∨ j = 13 ∨ j = 14 ∨ j = 15 ∨ j = 16 ∨ j = 17 ∨ j = 18 ∨ j = 19 ∨ j = 20 ∨ j = 21 ∨ j = 22 ∨ j = 23 ∨ j = 24 ∨ j = 25 ∨ j = 26 ∨ j = 27 ∨ j = 28 ∨ j = 29 ∨ j = 30 ∨ j = 31 ∨ j = 32 ∨ j = 33 ∨ j = 34 ∨ j = 35 ∨ j = 36 ∨ j = 37 ∨ j = 38 ∨ j = 39 ∨ 40 ≤ j := by omega
set_option maxHeartbeats 4000000 in
set_option maxRecDepth 100000 in
theorem law_step {p : Program} {e : Env} {s : State} {m : MethodId} {below : List Frame} {meth : Method} {c : Code} (l : Launch) (hst : l.stackTraces = false) {b L : Nat} {xs : Nat → Int32} (hL : L ≤ 3072) (C0 : lw_At p s m meth c b L xs) (dC : Nat → ClassId) (dI : Nat → Nat → Nat) (ad : Nat → Nat) (E : EP) (hEE : EC ad E) (hEE2 : ∀ A U H, E A U H → EX A U H) (hE : E (LF s) s s.heap) {ar : Nat → Nat} {cy : Nat → ClassId} {a0 o : Nat} {yo : ClassId} (n : Nat) (hn : n ≤ 512) (h6 : 6 * n ≤ L) (next : 6 * n + 6 ≤ L → LK p l e s m b below meth c dC dI ad ar cy a0 o yo (6 * n + 6) (314 + 5 * n + 5) (7149 + 170 * n + 170) 23 (lw_Z below #[Value.ref b] s)) : LK p l e s m b below meth c dC dI ad ar cy a0 o yo (6 * n) (314 + 5 * n) (7149 + 170 * n) 23 (lw_Z below #[Value.ref b] s) := by
  intro H locs ls A C nb st sl so st2 sl2 hA0 h hN hS hl
  obtain ⟨hx, hb, hr, hml, hown, hts, hX, hbl, hlocks, hgv⟩ := id C0
  have hbA : ¬ LF s b := fun z => absurd hbl (Nat.not_lt.mpr z)
  have hrc : room_1.cells = 601024 := rfl
  have hrs : room_1.slots = 7293034 := rfl
  refine lv_iload hx hb dL_law_23 (lv_at hl 0 rfl) ?_
  refine lv_aload_n hx hb dL_law_25 rfl (lv_at hl 4 rfl) ?_
  refine va_slen hx hb hX hbl hbA hS dL_law_26 ?_
  refine zz_top (v := nI L) rfl ?_
  refine lv_bipush (v := 6) hx hb dL_law_27 (by decide) ?_
  refine lv_isub hx hb dL_law_29 ?_
  refine lv_icmp_gt (tgt := 1399) hx hb dL_law_30 (by decide) (fun c9 => ?_) (fun c9 => ?_)
  · refine lv_iconst (v := 1) hx hb dL_law_1399 (by decide) ?_
    refine va_forget (fun q hq => hS.2.2 q hq) ?_
    refine W.widen (k := 601024) (n := 7293034) (by omega) (by omega) ?_
    exact lw_ret hx hb hr hlocks dL_law_1400
  · have h6L : 6 * n + 6 ≤ L := by
      rcases Nat.lt_or_ge L (6 * n + 6) with z | z
      · exact absurd ((zz_gt6 hL (by omega)).mpr z) c9
      · exact z
    have K : LK p l e s m b below meth c dC dI ad ar cy a0 o yo (6 * n) (314 + 5 * n + 5) (7149 + 170 * n + 170) 1393 (lw_Z below #[Value.ref b] s) := by
      intro H locs ls A C nb st sl so st2 sl2 hA0 h hN hS hl
      refine lv_iinc (v := nI (6 * n + 6)) (lv' := [(4, .int (nI (6 * n + 6))), (3, .ref o), (2, .ref (ar 0)), (1, .ref a0), (0, .ref b)]) hx hb dL_law_1393 hl (k := 0) rfl (nI_add (6 * n) 6) (by decide) rfl (fun ls hl => ?_)
      refine lv_goto (tgt := 23) hx hb dL_law_1396 (by decide) ?_
      exact next h6L H locs ls A C nb st sl so st2 sl2 hA0 h hN hS hl
    refine lv_aload_n hx hb dL_law_33 rfl (lv_at hl 4 rfl) ?_
    refine lv_iload hx hb dL_law_34 (lv_at hl 0 rfl) ?_
    refine va_sld hx hb hX hbl hbA hS (i := nI (6 * n)) (vp_in_nI (by omega) (by omega)) dL_law_36 ?_
    refine lv_topi (fun v0 ev0 => ?_)
    refine lv_bipush (v := 63) hx hb dL_law_37 (by decide) ?_
    refine lv_iand hx hb dL_law_39 ?_
    obtain ⟨j, hj, ej⟩ := pk_andE v0 (m := 63) 6 (by decide)
    refine zz_top (v := nI j) ej ?_
    rcases zz_64 hj with rfl | rfl | rfl | rfl | rfl | rfl | rfl | rfl | rfl | rfl | rfl | rfl | rfl | rfl | rfl | rfl | rfl | rfl | rfl | rfl | rfl | rfl | rfl | rfl | rfl | rfl | rfl | rfl | rfl | rfl | rfl | rfl | rfl | rfl | rfl | rfl | rfl | rfl | rfl | rfl | hj40
    · refine lv_tableIn (tgt := 216) hx hb dL_law_40 (by decide) (by decide) rfl (by decide) ?_
      exact lc_feed l hL C0 dC dI ad E hEE hE (6 * n) h6L hA0 h hN hS hl (by omega) (by omega) K
    · refine lv_tableIn (tgt := 289) hx hb dL_law_40 (by decide) (by decide) rfl (by decide) ?_
      exact lc_end l hL C0 dC dI ad E hEE hE (6 * n) h6L hA0 h hN hS hl (by omega) (by omega) K
    · refine lv_tableIn (tgt := 314) hx hb dL_law_40 (by decide) (by decide) rfl (by decide) ?_
      exact lc_park l hL C0 dC dI ad E hEE hE (6 * n) h6L hA0 h hN hS hl (by omega) (by omega) K
    · refine lv_tableIn (tgt := 327) hx hb dL_law_40 (by decide) (by decide) rfl (by decide) ?_
      exact lc_fault l hL C0 dC dI ad E hEE hE (6 * n) h6L hA0 h hN hS hl (by omega) (by omega) K
    · refine lv_tableIn (tgt := 340) hx hb dL_law_40 (by decide) (by decide) rfl (by decide) ?_
      exact lc_person l hL C0 dC dI ad E hEE hst hEE2 hE (6 * n) h6L hA0 h hN hS hl (by omega) (by omega) K
    · refine lv_tableIn (tgt := 380) hx hb dL_law_40 (by decide) (by decide) rfl (by decide) ?_
      exact lc_dog l hL C0 dC dI ad E hEE hst hEE2 hE (6 * n) h6L hA0 h hN hS hl (by omega) (by omega) K
    · refine lv_tableIn (tgt := 420) hx hb dL_law_40 (by decide) (by decide) rfl (by decide) ?_
      exact lc_place l hL C0 dC dI ad E hEE hE (6 * n) h6L hA0 h hN hS hl (by omega) (by omega) K
    · refine lv_tableIn (tgt := 457) hx hb dL_law_40 (by decide) (by decide) rfl (by decide) ?_
      exact lc_now l hL C0 dC dI ad E hEE hE (6 * n) h6L hA0 h hN hS hl (by omega) (by omega) K
    · refine lv_tableIn (tgt := 482) hx hb dL_law_40 (by decide) (by decide) rfl (by decide) ?_
      exact lc_allow l hL C0 dC dI ad E hEE hE (6 * n) h6L hA0 h hN hS hl (by omega) (by omega) K
    · refine lv_tableIn (tgt := 531) hx hb dL_law_40 (by decide) (by decide) rfl (by decide) ?_
      exact lc_forbid l hL C0 dC dI ad E hEE hE (6 * n) h6L hA0 h hN hS hl (by omega) (by omega) K
    · refine lv_tableIn (tgt := 580) hx hb dL_law_40 (by decide) (by decide) rfl (by decide) ?_
      exact lc_fence l hL C0 dC dI ad E hEE hE (6 * n) h6L hA0 h hN hS hl (by omega) (by omega) K
    · refine lv_tableIn (tgt := 605) hx hb dL_law_40 (by decide) (by decide) rfl (by decide) ?_
      exact lc_sign l hL C0 dC dI ad E hEE hE (6 * n) h6L hA0 h hN hS hl (by omega) (by omega) K
    · refine lv_tableIn (tgt := 630) hx hb dL_law_40 (by decide) (by decide) rfl (by decide) ?_
      exact lc_hold l hL C0 dC dI ad E hEE hE (6 * n) h6L hA0 h hN hS hl (by omega) (by omega) K
    · refine lv_tableIn (tgt := 667) hx hb dL_law_40 (by decide) (by decide) rfl (by decide) ?_
      exact lc_come l hL C0 dC dI ad E hEE hE (6 * n) h6L hA0 h hN hS hl (by omega) (by omega) K
    · refine lv_tableIn (tgt := 728) hx hb dL_law_40 (by decide) (by decide) rfl (by decide) ?_
      exact lc_days l hL C0 dC dI ad E hEE hE (6 * n) h6L hA0 h hN hS hl (by omega) (by omega) K
    · refine lv_tableIn (tgt := 765) hx hb dL_law_40 (by decide) (by decide) rfl (by decide) ?_
      exact lc_undo l hL C0 dC dI ad E hEE hE (6 * n) h6L hA0 h hN hS hl (by omega) (by omega) K
    · refine lv_tableIn (tgt := 778) hx hb dL_law_40 (by decide) (by decide) rfl (by decide) ?_
      exact lc_there l hL C0 dC dI ad E hEE hE (6 * n) h6L hA0 h hN hS hl (by omega) (by omega) K
    · refine lv_tableIn (tgt := 815) hx hb dL_law_40 (by decide) (by decide) rfl (by decide) ?_
      exact lc_meets l hL C0 dC dI ad E hEE hE (6 * n) h6L hA0 h hN hS hl (by omega) (by omega) K
    · refine lv_tableIn (tgt := 852) hx hb dL_law_40 (by decide) (by decide) rfl (by decide) ?_
      exact lc_best l hL C0 dC dI ad E hEE hE (6 * n) h6L hA0 h hN hS hl (by omega) (by omega) K
    · refine lv_tableIn (tgt := 889) hx hb dL_law_40 (by decide) (by decide) rfl (by decide) ?_
      exact lc_bestAt l hL C0 dC dI ad E hEE hE (6 * n) h6L hA0 h hN hS hl (by omega) (by omega) K
    · refine lv_tableIn (tgt := 914) hx hb dL_law_40 (by decide) (by decide) rfl (by decide) ?_
      exact lc_fences l hL C0 dC dI ad E hEE hE (6 * n) h6L hA0 h hN hS hl (by omega) (by omega) K
    · refine lv_tableIn (tgt := 927) hx hb dL_law_40 (by decide) (by decide) rfl (by decide) ?_
      exact lc_risk l hL C0 dC dI ad E hEE hst hEE2 hE (6 * n) h6L hA0 h hN hS hl (by omega) (by omega) K
    · refine lv_tableIn (tgt := 967) hx hb dL_law_40 (by decide) (by decide) rfl (by decide) ?_
      exact lc_perils l hL C0 dC dI ad E hEE hE (6 * n) h6L hA0 h hN hS hl (by omega) (by omega) K
    · refine lv_tableIn (tgt := 992) hx hb dL_law_40 (by decide) (by decide) rfl (by decide) ?_
      exact lc_rounds l hL C0 dC dI ad E hEE hE (6 * n) h6L hA0 h hN hS hl (by omega) (by omega) K
    · refine lv_tableIn (tgt := 1005) hx hb dL_law_40 (by decide) (by decide) rfl (by decide) ?_
      exact lc_parted l hL C0 dC dI ad E hEE hE (6 * n) h6L hA0 h hN hS hl (by omega) (by omega) K
    · refine lv_tableIn (tgt := 1030) hx hb dL_law_40 (by decide) (by decide) rfl (by decide) ?_
      exact lc_partedGood l hL C0 dC dI ad E hEE hE (6 * n) h6L hA0 h hN hS hl (by omega) (by omega) K
    · refine lv_tableIn (tgt := 1043) hx hb dL_law_40 (by decide) (by decide) rfl (by decide) ?_
      exact lc_tracks l hL C0 dC dI ad E hEE hE (6 * n) h6L hA0 h hN hS hl (by omega) (by omega) K
    · refine lv_tableIn (tgt := 1056) hx hb dL_law_40 (by decide) (by decide) rfl (by decide) ?_
      exact lc_votes l hL C0 dC dI ad E hEE hE (6 * n) h6L hA0 h hN hS hl (by omega) (by omega) K
    · refine lv_tableIn (tgt := 1081) hx hb dL_law_40 (by decide) (by decide) rfl (by decide) ?_
      exact lc_against l hL C0 dC dI ad E hEE hE (6 * n) h6L hA0 h hN hS hl (by omega) (by omega) K
    · refine lv_tableIn (tgt := 1106) hx hb dL_law_40 (by decide) (by decide) rfl (by decide) ?_
      exact lc_missed l hL C0 dC dI ad E hEE hE (6 * n) h6L hA0 h hN hS hl (by omega) (by omega) K
    · refine lv_tableIn (tgt := 1131) hx hb dL_law_40 (by decide) (by decide) rfl (by decide) ?_
      exact lc_board l hL C0 dC dI ad E hEE hE (6 * n) h6L hA0 h hN hS hl (by omega) (by omega) K
    · refine lv_tableIn (tgt := 1156) hx hb dL_law_40 (by decide) (by decide) rfl (by decide) ?_
      exact lc_byteAt l hL C0 dC dI ad E hEE hE (6 * n) h6L hA0 h hN hS hl (by omega) (by omega) K
    · refine lv_tableIn (tgt := 1181) hx hb dL_law_40 (by decide) (by decide) rfl (by decide) ?_
      exact lc_odds l hL C0 dC dI ad E hEE hE (6 * n) h6L hA0 h hN hS hl (by omega) (by omega) K
    · refine lv_tableIn (tgt := 1230) hx hb dL_law_40 (by decide) (by decide) rfl (by decide) ?_
      exact lc_book l hL C0 dC dI ad E hEE hE (6 * n) h6L hA0 h hN hS hl (by omega) (by omega) K
    · refine lv_tableIn (tgt := 1255) hx hb dL_law_40 (by decide) (by decide) rfl (by decide) ?_
      exact lc_told l hL C0 dC dI ad E hEE hE (6 * n) h6L hA0 h hN hS hl (by omega) (by omega) K
    · refine lv_tableIn (tgt := 1280) hx hb dL_law_40 (by decide) (by decide) rfl (by decide) ?_
      exact lc_sentence l hL C0 dC dI ad E hEE hE (6 * n) h6L hA0 h hN hS hl (by omega) (by omega) K
    · refine lv_tableIn (tgt := 1293) hx hb dL_law_40 (by decide) (by decide) rfl (by decide) ?_
      exact lc_said l hL C0 dC dI ad E hEE hE (6 * n) h6L hA0 h hN hS hl (by omega) (by omega) K
    · refine lv_tableIn (tgt := 1318) hx hb dL_law_40 (by decide) (by decide) rfl (by decide) ?_
      exact lc_image l hL C0 dC dI ad E hEE hE (6 * n) h6L hA0 h hN hS hl (by omega) (by omega) K
    · refine lv_tableIn (tgt := 1343) hx hb dL_law_40 (by decide) (by decide) rfl (by decide) ?_
      exact lc_restore l hL C0 dC dI ad E hEE hE (6 * n) h6L hA0 h hN hS hl (by omega) (by omega) K
    · refine lv_tableIn (tgt := 1368) hx hb dL_law_40 (by decide) (by decide) rfl (by decide) ?_
      exact lc_count l hL C0 dC dI ad E hEE hE (6 * n) h6L hA0 h hN hS hl (by omega) (by omega) K
    · refine lv_tableOut (tgt := 1393) hx hb dL_law_40 (Or.inr (by rw [nI_toInt (by omega)]; omega)) (by decide) ?_
      refine W.widen (k := 314 + 5 * n + 5) (n := 7149 + 170 * n + 170) (by omega) (by omega) ?_
      exact K H locs ls A C nb st sl so st2 sl2 hA0 h hN hS hl
theorem law_loop {p : Program} {e : Env} {s : State} {m : MethodId} {below : List Frame} {meth : Method} {c : Code} (l : Launch) (hst : l.stackTraces = false) {b L : Nat} {xs : Nat → Int32} (hL : L ≤ 3072) (C0 : lw_At p s m meth c b L xs) (dC : Nat → ClassId) (dI : Nat → Nat → Nat) (ad : Nat → Nat) (E : EP) (hEE : EC ad E) (hEE2 : ∀ A U H, E A U H → EX A U H) (hE : E (LF s) s s.heap) {ar : Nat → Nat} {cy : Nat → ClassId} {a0 o : Nat} {yo : ClassId} : ∀ (d n : Nat), n + d = 512 → 6 * n ≤ L → LK p l e s m b below meth c dC dI ad ar cy a0 o yo (6 * n) (314 + 5 * n) (7149 + 170 * n) 23 (lw_Z below #[Value.ref b] s)
  | 0, n, hn, h6 => law_step l hst hL C0 dC dI ad E hEE hEE2 hE n (by omega) h6 (fun z => absurd z (by omega))
  | d + 1, n, hn, h6 => law_step l hst hL C0 dC dI ad E hEE hEE2 hE n (by omega) h6 (fun z => by
    have := law_loop (e := e) (below := below) l hst hL C0 dC dI ad E hEE hEE2 hE (ar := ar) (cy := cy) (a0 := a0) (o := o) (yo := yo) d (n + 1) (by omega) (by omega)
    rw [show 6 * (n + 1) = 6 * n + 6 by omega, show 314 + 5 * (n + 1) = 314 + 5 * n + 5 by omega, show 7149 + 170 * (n + 1) = 7149 + 170 * n + 170 by omega] at this
    exact this)
