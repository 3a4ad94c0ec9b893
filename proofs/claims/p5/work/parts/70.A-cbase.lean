/-! constructors: base -/
def CP (D : va_G) (ws : va_W) (tys : List (ClassId × FieldType)) (sz : Nat) (ad : Nat → Nat) (U : State) : Prop := U.heap.size = sz ∧ va_P D vwCl ws U.heap ∧ va_K D vwCl tys U ∧ va_D (fun _ => True) ws ∧ EV ad (va_A ws sz) U U.heap
theorem CP.blind {D : va_G} {ws : va_W} {tys : List (ClassId × FieldType)} {sz : Nat} {ad : Nat → Nat} {U : State} {g : JFrame} {mk : MethodId} {a : Array Value} (q : CP D ws tys sz ad U) : CP D ws tys sz ad (U.calling g mk a) := by
  obtain ⟨q1, qP, qK, qD, qE⟩ := q
  exact ⟨q1, qP, va_K.moved (u := U) (U := U.calling g mk a) (Vm.Alike.refl U.vm) qK, qD, EV.blind qE⟩
theorem CP.of {D : va_G} {ws : va_W} {tys : List (ClassId × FieldType)} {ad : Nat → Nat} {A : Nat → Prop} {s U : State} {H : Heap} {locs : List Loc} (hP : va_P D vwCl ws H) (hK : va_K D vwCl tys s) (hD : va_D A ws) (hE : EV ad A s s.heap) (hS : va_S A s.heap H locs) (hF : ∀ q, va_A ws H.size q → A q) (hU : U.heap = H) (hW : s.WarmedH U.vm) : CP D ws tys H.size ad U :=
  ⟨by rw [hU], by rw [hU]; exact hP, va_K.moved hW.alike hK, ⟨hD.1, fun _ _ _ => trivial⟩, EV.call hE hS hF hU hW⟩
def CQz (D : va_G) (ws : va_W) (tys : List (ClassId × FieldType)) (A : Nat → Prop) (t : State) : Prop := va_P D vwCl ws t.heap ∧ va_K D vwCl tys t ∧ va_D A ws
theorem EV.ao_X2 {ad : Nat → Nat} {A : Nat → Prop} {U : State} {H : Heap} (h : EV ad A U H) : va_AO RX2 U := h.2.2.1.1
theorem EV.ao_X4 {ad : Nat → Nat} {A : Nat → Prop} {U : State} {H : Heap} (h : EV ad A U H) : va_AO RX4 U := h.2.2.1.2.1
theorem EV.ao_X6 {ad : Nat → Nat} {A : Nat → Prop} {U : State} {H : Heap} (h : EV ad A U H) : va_AO RX6 U := h.2.2.1.2.2.1
theorem EV.ao_X7 {ad : Nat → Nat} {A : Nat → Prop} {U : State} {H : Heap} (h : EV ad A U H) : va_AO RX7 U := h.2.2.1.2.2.2.1
theorem EV.ao_X10 {ad : Nat → Nat} {A : Nat → Prop} {U : State} {H : Heap} (h : EV ad A U H) : va_AO RX10 U := h.2.2.1.2.2.2.2
theorem zj_mem {D : va_G} {cl : List vw_C} {ws : va_W} {H : Heap} : va_P D cl ws H ↔ ∀ q ∈ ws, va_at D cl q H := by
  constructor
  · intro h q hq
    obtain ⟨k, hk⟩ := List.mem_iff_getElem?.mp hq
    exact h k q hk
  · intro h k q hk
    exact h q (List.mem_of_getElem? hk)
theorem zj_D {A : Nat → Prop} {ws : va_W} : va_D A ws ↔ (ws.Pairwise (fun a b => a.1 ≠ b.1) ∧ ∀ q ∈ ws, A q.1) := by
  constructor
  · intro h
    refine ⟨List.pairwise_iff_getElem.mpr (fun i j hi hj hij he => ?_), fun q hq => ?_⟩
    · have := h.1 i j _ _ (List.getElem?_eq_getElem hi) (List.getElem?_eq_getElem hj) he
      omega
    · obtain ⟨k, hk⟩ := List.mem_iff_getElem?.mp hq
      exact h.2 k q hk
  · intro h
    obtain ⟨h1, h2⟩ := h
    refine ⟨fun i j p q hp hq he => ?_, fun k q hk => h2 q (List.mem_of_getElem? hk)⟩
    obtain ⟨hi, ep⟩ := List.getElem?_eq_some_iff.mp hp
    obtain ⟨hj, eq⟩ := List.getElem?_eq_some_iff.mp hq
    subst ep
    subst eq
    rcases Nat.lt_trichotomy i j with h | h | h
    · exact absurd he (List.pairwise_iff_getElem.mp h1 i j hi hj h)
    · exact h
    · exact absurd he.symm (List.pairwise_iff_getElem.mp h1 j i hj hi h)
theorem zj_Dp {A : Nat → Prop} {ws ws' : va_W} (p : ws.Perm ws') (h : va_D A ws) : va_D A ws' := by
  obtain ⟨h1, h2⟩ := zj_D.mp h
  exact zj_D.mpr ⟨(p.pairwise_iff (fun h => Ne.symm h)).mp h1, fun q hq => h2 q (p.mem_iff.mpr hq)⟩
theorem zj_Pp {D : va_G} {cl : List vw_C} {ws ws' : va_W} {H : Heap} (p : ws.Perm ws') (h : va_P D cl ws H) : va_P D cl ws' H := zj_mem.mpr (fun q hq => zj_mem.mp h q (p.mem_iff.mpr hq))
theorem zj_Kp {D : va_G} {cl : List vw_C} {tys tys' : List (ClassId × FieldType)} {U : State} (p : tys.Perm tys') (h : va_K D cl tys U) : va_K D cl tys' U := by
  refine ⟨h.1, fun k q hk => ?_⟩
  obtain ⟨j, hj⟩ := List.mem_iff_getElem?.mp (p.mem_iff.mpr (List.mem_of_getElem? hk))
  exact h.2 j q hj
theorem zj_Da {A : Nat → Prop} {ws ws' : va_W} (e : ws.map Prod.fst = ws'.map Prod.fst) (h : va_D A ws) : va_D A ws' := by
  obtain ⟨h1, h2⟩ := zj_D.mp h
  have h3 : (ws.map Prod.fst).Pairwise (fun a b => a ≠ b) := List.pairwise_map.mpr h1
  rw [e] at h3
  refine zj_D.mpr ⟨List.pairwise_map.mp h3, fun q hq => ?_⟩
  have h4 : q.1 ∈ ws.map Prod.fst := by rw [e]; exact List.mem_map.mpr ⟨q, hq, rfl⟩
  obtain ⟨r, hr, hr1⟩ := List.mem_map.mp h4
  rw [← hr1]
  exact h2 r hr
theorem zj_rP {D : va_G} {cl : List vw_C} {ws : va_W} {c : Nat × va_E} {H : Heap} (h : va_P D cl (ws ++ [c]) H) : va_P D cl (c :: ws) H := zj_Pp (List.perm_append_singleton c ws) h
theorem zj_rD {A : Nat → Prop} {ws : va_W} {c : Nat × va_E} (h : va_D A (ws ++ [c])) : va_D A (c :: ws) := zj_Dp (List.perm_append_singleton c ws) h
theorem zj_rK {D : va_G} {cl : List vw_C} {tys : List (ClassId × FieldType)} {c : ClassId × FieldType} {U : State} (h : va_K D cl (tys ++ [c]) U) : va_K D cl (c :: tys) U := zj_Kp (List.perm_append_singleton c tys) h
theorem zj_mix {α : Type} (ex dn e1 t1 : List α) : ((ex ++ dn) ++ (e1 ++ t1)).Perm (ex ++ (e1 ++ (t1 ++ dn))) := by
  rw [List.append_assoc, ← List.append_assoc e1 t1 dn]
  exact List.Perm.append_left ex List.perm_append_comm
theorem zj_nd : ∀ l : List Nat, l.Pairwise (fun a b => a ≠ b) → va_nd l = true
  | [], _ => rfl
  | a :: l, h => by
    obtain ⟨h1, h2⟩ := List.pairwise_cons.mp h
    show (decide (a ∉ l) && va_nd l) = true
    rw [zj_nd l h2, Bool.and_true]
    exact decide_eq_true (fun hm => h1 a hm rfl)
theorem zj_up (n : Nat) : ((List.range n).map (· + 1)).Pairwise (fun a b => a ≠ b) := by
  refine List.pairwise_map.mpr (List.pairwise_iff_getElem.mpr (fun i j hi hj hij he => ?_))
  rw [List.getElem_range, List.getElem_range] at he
  omega
theorem zj_call {A0 : Nat → Prop} {D : va_G} {cl : List vw_C} {c0 : Nat × va_E} {H H1 : Heap} (ex dn e1 t1 : va_W) (hP : va_P D cl (c0 :: (ex ++ dn)) H) (hD : va_D A0 (c0 :: (ex ++ dn)))
    (hk : ∀ q : Nat, q < H.size → ¬ va_A [c0] H.size q → H1[q]? = H[q]?) (hF : ∀ q, va_A [c0] H.size q → A0 q) (hP1 : va_P D cl (e1 ++ t1) H1) (hD1 : va_D (va_A [c0] H.size) (e1 ++ t1)) : va_P D cl (ex ++ (e1 ++ (t1 ++ dn))) H1 ∧ va_D A0 (ex ++ (e1 ++ (t1 ++ dn))) := by
  generalize hw : ex ++ dn = wr at hP hD
  have hR : ((List.range wr.length).map (· + 1)).map (fun i => (c0 :: wr)[i]?) = wr.map some := by
    rw [List.map_map]
    apply List.ext_getElem?
    intro k
    rw [List.getElem?_map, List.getElem?_map]
    by_cases h : k < wr.length
    · rw [List.getElem?_range h, List.getElem?_eq_getElem h]
      show some ((c0 :: wr)[k + 1]?) = some (some wr[k])
      rw [List.getElem?_cons_succ, List.getElem?_eq_getElem h]
    · rw [List.getElem?_eq_none (by rw [List.length_range]; omega), List.getElem?_eq_none (by omega)]
      rfl
  obtain ⟨a, b⟩ := va_join (wc := [c0]) (wr := wr) hP hD [0] ((List.range wr.length).map (· + 1)) rfl hR (zj_nd _ (zj_up _)) (fun i hi h0 => by
    obtain ⟨j, _, hj⟩ := List.mem_map.mp hi
    have := List.mem_singleton.mp h0
    omega) hk hF hP1 hD1
  subst hw
  exact ⟨zj_Pp (zj_mix ex dn e1 t1) a, zj_Dp (zj_mix ex dn e1 t1) b⟩
theorem zj_K {D : va_G} {cl : List vw_C} {s t : State} (hvm : s.vm.Alike t.vm) (ex dn e1 t1 : List (ClassId × FieldType)) (hK : va_K D cl (ex ++ dn) s) (hK1 : va_K D cl (e1 ++ t1) t) : va_K D cl (ex ++ (e1 ++ (t1 ++ dn))) s := zj_Kp (zj_mix ex dn e1 t1) (hK.app (va_K.moved hvm.symm hK1))
theorem arrV_c {cI : ClassId} {N : Nat} {f g : Nat → Value} (h : ∀ j, j < N → f j = g j) : arrV cI N f = arrV cI N g := by
  have e : (fun j : Fin N => f j.val) = (fun j : Fin N => g j.val) := funext (fun j => h j.val j.isLt)
  unfold arrV
  rw [e]
theorem va_atq {D : va_G} {cl : List vw_C} {q n : Nat} {cA : ClassId} {h h' : Nat → Option Nat} {H : Heap} (a : va_at D cl (q, .inl (cA, n, .inr (.inr (.inr (.inr h))))) H) (e : ∀ j, j < n → h j = h' j) : va_at D cl (q, .inl (cA, n, .inr (.inr (.inr (.inr h'))))) H := by
  have a : H[q]? = some (arrV cA n (fun j => va_rf (h j))) := a
  show H[q]? = some (arrV cA n (fun j => va_rf (h' j)))
  rw [a, arrV_c (g := fun j => va_rf (h' j)) (fun j hj => by rw [e j hj])]
theorem va_ati {D : va_G} {cl : List vw_C} {q n : Nat} {cA : ClassId} {h h' : Nat → Int32} {H : Heap} (a : va_at D cl (q, .inl (cA, n, .inl h)) H) (e : ∀ j, j < n → h j = h' j) : va_at D cl (q, .inl (cA, n, .inl h')) H := by
  have a : H[q]? = some (arrV cA n (fun j => .int (h j))) := a
  show H[q]? = some (arrV cA n (fun j => .int (h' j)))
  rw [a, arrV_c (g := fun j => .int (h' j)) (fun j hj => by rw [e j hj])]
theorem zj_cons {D : va_G} {cl : List vw_C} {q : Nat × va_E} {ws : va_W} {H : Heap} (a : va_at D cl q H) (b : va_P D cl ws H) : va_P D cl (q :: ws) H := zj_mem.mpr (List.forall_mem_cons.mpr ⟨a, zj_mem.mp b⟩)
theorem zj_nil {D : va_G} {cl : List vw_C} {H : Heap} : va_P D cl [] H := fun k q h => by cases k <;> cases h
def pkr (P : Nat → Nat) (Q : Nat → ClassId) : va_W := [(P 1, .inl (Q 1, 5, .inr (.inl (fun _ => 0)))), (P 2, .inl (Q 2, 5, .inl (fun _ => 0))), (P 3, .inl (Q 3, 5, .inl (fun _ => 0))), (P 4, .inl (Q 4, 8, .inr (.inr (.inr (.inr (fun j => some (P (4 + 2 + j)))))))), (P 5, .inl (Q 5, 6, .inr (.inr (.inr (.inr (fun j => some (P (5 + 9 + j)))))))), (P 6, .inr (7, [.long 0, .int 0, .int 0, .int 0, .int 0, .int 0, .int 0, .int 0, .int 0])), (P 7, .inr (7, [.long 0, .int 0, .int 0, .int 0, .int 0, .int 0, .int 0, .int 0, .int 0])), (P 8, .inr (7, [.long 0, .int 0, .int 0, .int 0, .int 0, .int 0, .int 0, .int 0, .int 0])), (P 9, .inr (7, [.long 0, .int 0, .int 0, .int 0, .int 0, .int 0, .int 0, .int 0, .int 0])), (P 10, .inr (7, [.long 0, .int 0, .int 0, .int 0, .int 0, .int 0, .int 0, .int 0, .int 0])), (P 11, .inr (7, [.long 0, .int 0, .int 0, .int 0, .int 0, .int 0, .int 0, .int 0, .int 0])), (P 12, .inr (7, [.long 0, .int 0, .int 0, .int 0, .int 0, .int 0, .int 0, .int 0, .int 0])), (P 13, .inr (7, [.long 0, .int 0, .int 0, .int 0, .int 0, .int 0, .int 0, .int 0, .int 0])), (P 14, .inr (3, [.long 0, .int 0, .int 0, .int 0, .int 0, .int 0, .int 0])), (P 15, .inr (3, [.long 0, .int 0, .int 0, .int 0, .int 0, .int 0, .int 0])), (P 16, .inr (3, [.long 0, .int 0, .int 0, .int 0, .int 0, .int 0, .int 0])), (P 17, .inr (3, [.long 0, .int 0, .int 0, .int 0, .int 0, .int 0, .int 0])), (P 18, .inr (3, [.long 0, .int 0, .int 0, .int 0, .int 0, .int 0, .int 0])), (P 19, .inr (3, [.long 0, .int 0, .int 0, .int 0, .int 0, .int 0, .int 0]))]
def pkt (Q : Nat → ClassId) : List (ClassId × FieldType) := [(Q 1, .long), (Q 2, .int), (Q 3, .boolean), (Q 4, .object RX6), (Q 5, .object RX2)]
def pkP (p0 p1 p2 p3 p4 p5 p6 p7 p8 p9 p10 p11 p12 p13 p14 p15 p16 p17 p18 p19 : Nat) : Nat → Nat := fun k => [p0, p1, p2, p3, p4, p5, p6, p7, p8, p9, p10, p11, p12, p13, p14, p15, p16, p17, p18, p19].getD k 0
def pkQ (y1 y2 y3 y4 y5 : ClassId) : Nat → ClassId := fun k => [y1, y1, y2, y3, y4, y5].getD k y1
def pko (p0 : Nat) (P : Nat → Nat) : Nat × va_E := (p0, .inr (5, [.ref (P 1), .ref (P 2), .ref (P 3), .ref (P 4), .ref (P 5), .int 0, .int 0, .int 0, .int 2, .int 0, .int 0, .int 0]))
theorem pk_fold {D : va_G} {H : Heap} {p0 p1 p2 p3 p4 p5 p6 p7 p8 p9 p10 p11 p12 p13 p14 p15 p16 p17 p18 p19 : Nat} {y1 y2 y3 y4 y5 : ClassId} (h : va_P D vwCl [(p0, .inr (5, [.ref p1, .ref p2, .ref p3, .ref p4, .ref p5, .int 0, .int 0, .int 0, .int 2, .int 0, .int 0, .int 0])), (p1, .inl (y1, 5, .inr (.inl (fun _ => 0)))), (p2, .inl (y2, 5, .inl (fun _ => 0))), (p3, .inl (y3, 5, .inl (fun _ => 0))), (p4, .inl (y4, 8, .inr (.inr (.inr (.inr (va_up (va_up (va_up (va_up (va_up (va_up (va_up (va_up (fun _ => none) 0 (some p6)) 1 (some p7)) 2 (some p8)) 3 (some p9)) 4 (some p10)) 5 (some p11)) 6 (some p12)) 7 (some p13))))))), (p5, .inl (y5, 6, .inr (.inr (.inr (.inr (va_up (va_up (va_up (va_up (va_up (va_up (fun _ => none) 0 (some p14)) 1 (some p15)) 2 (some p16)) 3 (some p17)) 4 (some p18)) 5 (some p19))))))), (p6, .inr (7, [.long 0, .int 0, .int 0, .int 0, .int 0, .int 0, .int 0, .int 0, .int 0])), (p7, .inr (7, [.long 0, .int 0, .int 0, .int 0, .int 0, .int 0, .int 0, .int 0, .int 0])), (p8, .inr (7, [.long 0, .int 0, .int 0, .int 0, .int 0, .int 0, .int 0, .int 0, .int 0])), (p9, .inr (7, [.long 0, .int 0, .int 0, .int 0, .int 0, .int 0, .int 0, .int 0, .int 0])), (p10, .inr (7, [.long 0, .int 0, .int 0, .int 0, .int 0, .int 0, .int 0, .int 0, .int 0])), (p11, .inr (7, [.long 0, .int 0, .int 0, .int 0, .int 0, .int 0, .int 0, .int 0, .int 0])), (p12, .inr (7, [.long 0, .int 0, .int 0, .int 0, .int 0, .int 0, .int 0, .int 0, .int 0])), (p13, .inr (7, [.long 0, .int 0, .int 0, .int 0, .int 0, .int 0, .int 0, .int 0, .int 0])), (p14, .inr (3, [.long 0, .int 0, .int 0, .int 0, .int 0, .int 0, .int 0])), (p15, .inr (3, [.long 0, .int 0, .int 0, .int 0, .int 0, .int 0, .int 0])), (p16, .inr (3, [.long 0, .int 0, .int 0, .int 0, .int 0, .int 0, .int 0])), (p17, .inr (3, [.long 0, .int 0, .int 0, .int 0, .int 0, .int 0, .int 0])), (p18, .inr (3, [.long 0, .int 0, .int 0, .int 0, .int 0, .int 0, .int 0])), (p19, .inr (3, [.long 0, .int 0, .int 0, .int 0, .int 0, .int 0, .int 0]))] H) : va_P D vwCl (pko p0 (pkP p0 p1 p2 p3 p4 p5 p6 p7 p8 p9 p10 p11 p12 p13 p14 p15 p16 p17 p18 p19) :: pkr (pkP p0 p1 p2 p3 p4 p5 p6 p7 p8 p9 p10 p11 p12 p13 p14 p15 p16 p17 p18 p19) (pkQ y1 y2 y3 y4 y5)) H := (zj_cons (h 0 _ rfl) (zj_cons (h 1 _ rfl) (zj_cons (h 2 _ rfl) (zj_cons (h 3 _ rfl) (zj_cons (va_atq (h 4 _ rfl) (fun j hj => by match j, hj with | 0, _ => rfl | 1, _ => rfl | 2, _ => rfl | 3, _ => rfl | 4, _ => rfl | 5, _ => rfl | 6, _ => rfl | 7, _ => rfl)) (zj_cons (va_atq (h 5 _ rfl) (fun j hj => by match j, hj with | 0, _ => rfl | 1, _ => rfl | 2, _ => rfl | 3, _ => rfl | 4, _ => rfl | 5, _ => rfl)) (zj_cons (h 6 _ rfl) (zj_cons (h 7 _ rfl) (zj_cons (h 8 _ rfl) (zj_cons (h 9 _ rfl) (zj_cons (h 10 _ rfl) (zj_cons (h 11 _ rfl) (zj_cons (h 12 _ rfl) (zj_cons (h 13 _ rfl) (zj_cons (h 14 _ rfl) (zj_cons (h 15 _ rfl) (zj_cons (h 16 _ rfl) (zj_cons (h 17 _ rfl) (zj_cons (h 18 _ rfl) (zj_cons (h 19 _ rfl) zj_nil))))))))))))))))))))
theorem pk_foldD {A : Nat → Prop} {p0 p1 p2 p3 p4 p5 p6 p7 p8 p9 p10 p11 p12 p13 p14 p15 p16 p17 p18 p19 : Nat} {y1 y2 y3 y4 y5 : ClassId} (h : va_D A [(p0, .inr (5, [.ref p1, .ref p2, .ref p3, .ref p4, .ref p5, .int 0, .int 0, .int 0, .int 2, .int 0, .int 0, .int 0])), (p1, .inl (y1, 5, .inr (.inl (fun _ => 0)))), (p2, .inl (y2, 5, .inl (fun _ => 0))), (p3, .inl (y3, 5, .inl (fun _ => 0))), (p4, .inl (y4, 8, .inr (.inr (.inr (.inr (va_up (va_up (va_up (va_up (va_up (va_up (va_up (va_up (fun _ => none) 0 (some p6)) 1 (some p7)) 2 (some p8)) 3 (some p9)) 4 (some p10)) 5 (some p11)) 6 (some p12)) 7 (some p13))))))), (p5, .inl (y5, 6, .inr (.inr (.inr (.inr (va_up (va_up (va_up (va_up (va_up (va_up (fun _ => none) 0 (some p14)) 1 (some p15)) 2 (some p16)) 3 (some p17)) 4 (some p18)) 5 (some p19))))))), (p6, .inr (7, [.long 0, .int 0, .int 0, .int 0, .int 0, .int 0, .int 0, .int 0, .int 0])), (p7, .inr (7, [.long 0, .int 0, .int 0, .int 0, .int 0, .int 0, .int 0, .int 0, .int 0])), (p8, .inr (7, [.long 0, .int 0, .int 0, .int 0, .int 0, .int 0, .int 0, .int 0, .int 0])), (p9, .inr (7, [.long 0, .int 0, .int 0, .int 0, .int 0, .int 0, .int 0, .int 0, .int 0])), (p10, .inr (7, [.long 0, .int 0, .int 0, .int 0, .int 0, .int 0, .int 0, .int 0, .int 0])), (p11, .inr (7, [.long 0, .int 0, .int 0, .int 0, .int 0, .int 0, .int 0, .int 0, .int 0])), (p12, .inr (7, [.long 0, .int 0, .int 0, .int 0, .int 0, .int 0, .int 0, .int 0, .int 0])), (p13, .inr (7, [.long 0, .int 0, .int 0, .int 0, .int 0, .int 0, .int 0, .int 0, .int 0])), (p14, .inr (3, [.long 0, .int 0, .int 0, .int 0, .int 0, .int 0, .int 0])), (p15, .inr (3, [.long 0, .int 0, .int 0, .int 0, .int 0, .int 0, .int 0])), (p16, .inr (3, [.long 0, .int 0, .int 0, .int 0, .int 0, .int 0, .int 0])), (p17, .inr (3, [.long 0, .int 0, .int 0, .int 0, .int 0, .int 0, .int 0])), (p18, .inr (3, [.long 0, .int 0, .int 0, .int 0, .int 0, .int 0, .int 0])), (p19, .inr (3, [.long 0, .int 0, .int 0, .int 0, .int 0, .int 0, .int 0]))]) : va_D A (pko p0 (pkP p0 p1 p2 p3 p4 p5 p6 p7 p8 p9 p10 p11 p12 p13 p14 p15 p16 p17 p18 p19) :: pkr (pkP p0 p1 p2 p3 p4 p5 p6 p7 p8 p9 p10 p11 p12 p13 p14 p15 p16 p17 p18 p19) (pkQ y1 y2 y3 y4 y5)) := by
  refine zj_Da ?_ h
  rfl
theorem pk_foldK {D : va_G} {U : State} {y1 y2 y3 y4 y5 : ClassId} (h : va_K D vwCl [(y1, .long), (y2, .int), (y3, .boolean), (y4, .object RX6), (y5, .object RX2)] U) : va_K D vwCl (pkt (pkQ y1 y2 y3 y4 y5)) U := h
