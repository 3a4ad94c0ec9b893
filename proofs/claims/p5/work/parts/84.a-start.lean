def mst : Nat → Nat → Int32 := fun r k => if r = 0 then (if k = 27 ∨ k = 28 ∨ k = 34 then -1 else 0) else if r = 2 ∧ (k = 60 ∨ k = 62) then 2 else 0
def msl : Nat → Nat → Int64 := fun _ _ => 0
theorem NT.start : NT cst csl mst msl := by
  refine ⟨⟨0, 0, by omega, by omega, rfl, rfl, fun j j1 j2 => absurd j1 (by omega)⟩, ⟨fun _ => 0, fun _ _ => 0, ⟨fun a ha => ?_, by decide, fun i hi => absurd hi (Nat.not_lt_zero i), fun i hi => absurd hi (Nat.not_lt_zero i), fun i hi => absurd hi (Nat.not_lt_zero i)⟩, fun a ha => ?_, by decide, fun a _ i hi => absurd hi (Nat.not_lt_zero i)⟩, fun k hk => ⟨fun _ => 0, fun _ _ => 0, ⟨fun a ha => ?_, by decide, fun i hi => absurd hi (Nat.not_lt_zero i), fun i hi => absurd hi (Nat.not_lt_zero i), fun i hi => absurd hi (Nat.not_lt_zero i)⟩, fun a ha => ?_, fun a _ i hi => absurd hi (Nat.not_lt_zero i)⟩⟩
  · rcases (show a = 0 ∨ a = 1 ∨ a = 2 by omega) with rfl | rfl | rfl <;> rfl
  · rcases (show a = 0 ∨ a = 1 ∨ a = 2 by omega) with rfl | rfl | rfl <;> rfl
  · rcases (show k = 0 ∨ k = 1 by omega) with rfl | rfl <;> rcases (show a = 0 ∨ a = 1 ∨ a = 2 by omega) with rfl | rfl | rfl <;> rfl
  · rcases (show k = 0 ∨ k = 1 by omega) with rfl | rfl <;> rcases (show a = 0 ∨ a = 1 ∨ a = 2 by omega) with rfl | rfl | rfl <;> rfl
theorem LN.start (ad : Nat → Nat) : LN ad 16 cst csl (cso ad) mst msl := by
  refine ⟨⟨fun r k h => ?_, ⟨fun r k => ?_, 25, by omega, rfl⟩, ⟨rfl, Or.inl rfl, ⟨0, rfl, by omega, by omega⟩, fun j => ?_⟩, fun q hq hn => SKs.zero ?_⟩, ⟨fun r k h => ?_, ?_, ?_, NKf.zero (fun j hj => rfl)⟩, ⟨0, by omega, rfl, rfl, ⟨fun _ => 0, fun j hj => absurd hj (Nat.not_lt_zero j)⟩⟩, fun j _ => rfl, NT.start, rfl⟩
  · by_cases h0 : cst r k = 0
    · exact ⟨0, h, h0⟩
    · exfalso
      unfold cst at h0
      split at h0
      · rename_i hr
        subst hr
        have : xrg 0 k = 0 := by unfold xrg; rw [if_pos (by omega), if_neg (by omega), if_neg (by omega), if_neg (by omega), if_neg (by omega)]
        omega
      · split at h0
        · rename_i _ hr
          rcases hr with hr | hr
          · subst hr
            have : xrg 16 k = 0 := by unfold xrg; rw [if_pos (by omega), if_neg (by omega), if_neg (by omega), if_neg (by omega), if_neg (by omega)]
            omega
          · subst hr
            have : xrg 17 k = 0 := by unfold xrg; rw [if_pos (by omega), if_neg (by omega), if_neg (by omega), if_neg (by omega), if_neg (by omega)]
            omega
        · split at h0
          · rename_i hr
            obtain ⟨h1, h2, h3⟩ := hr
            subst h3
            have : xrg r 8 = 0 := by unfold xrg; rw [if_neg (by omega), if_neg (by omega), if_pos h2, if_neg (by omega), if_neg (by omega), if_neg (by omega)]
            omega
          · exact h0 rfl
  · unfold cso
    split
    · exact Or.inr ⟨25, by omega, rfl⟩
    · exact Or.inl rfl
  · exact (by decide : fits .byte (.int (0 : Int32)) = true)
  · rcases (show q = 0 ∨ q = 1 ∨ q = 2 ∨ q = 3 by omega) with h | h | h | h <;> subst h <;> rfl
  · by_cases h0 : mst r k = 0
    · exact ⟨0, h, h0⟩
    · unfold mst at h0 ⊢
      by_cases hr : r = 0
      · subst hr
        rw [if_pos rfl] at h0
        by_cases hk : k = 27 ∨ k = 28 ∨ k = 34
        · exfalso
          rcases hk with hk | hk | hk <;> subst hk <;> exact absurd h (by decide)
        · rw [if_neg hk] at h0
          exact absurd rfl h0
      · rw [if_neg hr] at h0 ⊢
        by_cases hk : r = 2 ∧ (k = 60 ∨ k = 62)
        · rw [if_pos hk]
          obtain ⟨hk1, hk2⟩ := hk
          subst hk1
          rcases hk2 with hk | hk <;> subst hk <;> exact ⟨2, by decide, rfl⟩
        · rw [if_neg hk] at h0
          exact absurd rfl h0
  · refine NKf.zero (fun j hj => ?_)
    show mst 2 (133 + j) = 0
    unfold mst
    rw [if_neg (by omega), if_neg (by omega)]
  · refine ⟨NKf.zero (fun j hj => ?_), NKf.zero (fun j hj => ?_)⟩ <;> rfl
theorem xDg {A : Nat → Nat} (hN : XN A) {F : Nat → Prop} (hF : ∀ r, r < 296 → F (A r)) (C : Nat → ClassId) (nb : Nat) (st : Nat → Nat → Int32) (sl : Nat → Nat → Int64) (so : Nat → XR) : va_D F (xw A C nb st sl so) := by
  refine ⟨fun i j p q hp hq e => ?_, fun k q hq => ?_⟩
  · obtain ⟨h1, e1⟩ := xw_fst hp
    obtain ⟨h2, e2⟩ := xw_fst hq
    exact hN i j h1 h2 (by rw [← e1, ← e2]; exact e)
  · obtain ⟨h1, e1⟩ := xw_fst hq
    rw [e1]
    exact hF k h1
def mA (a : List Nat) : Nat → Nat := fun k => a.getD k 0
def mC (y : List ClassId) (yb : ClassId) : Nat → ClassId := fun k => y.getD k yb
def mpos : List Nat := [16, 1, 17, 2, 3, 4, 5, 6, 7, 8, 9, 10, 11, 12, 13, 14, 15]
theorem m2_eq (j : Nat) : (upd (upd (fun _ => 0) 60 2) 62 2 : Nat → Int32) j = mst 2 j := by
  unfold mst
  rw [if_neg (by omega)]
  by_cases h1 : j = 62
  · subst h1; rfl
  · by_cases h2 : j = 60
    · subst h2; rfl
    · rw [if_neg (by omega), pk_un h1, pk_un h2]
theorem mpos_inj : ∀ i, i < 17 → ∀ j, j < 17 → mpos.getD i 99 = mpos.getD j 99 → i = j := by decide +kernel
theorem mpos_lt : ∀ i, i < 17 → mpos.getD i 99 < 18 ∧ mpos.getD i 99 ≠ 0 := by decide +kernel
set_option maxHeartbeats 4000000 in
set_option maxRecDepth 100000 in
theorem LH.start {dC : Nat → ClassId} {dI : Nat → Nat → Nat} {s : State} {H : Heap} {ad : Nat → Nat} {Ar : Nat → Nat} {Cr : Nat → ClassId} (a0 a1 a2 a3 a4 a5 a6 a7 a8 a9 a10 a11 a12 a13 a14 a15 a16 o : Nat) (y1 y2 y3 y4 y5 y6 y7 y8 y9 y10 y11 y12 y13 y14 y15 y16 yo : ClassId) (kN : XN Ar) (hP : va_P (dC, dI) vwCl ([(o, .inl (yo, 1, .inr (.inl (fun _ => 0)))), (a1, .inl (y1, 940, .inl (fun _ => 0))), (a3, .inl (y3, 61, .inl (fun _ => 0))), (a4, .inl (y4, 746, .inl (fun _ => 0))), (a5, .inl (y5, 560, .inl (fun _ => 0))), (a6, .inl (y6, 70, .inl (fun _ => 0))), (a7, .inl (y7, 19, .inr (.inl (fun _ => 0)))), (a8, .inl (y8, 19, .inr (.inl (fun _ => 0)))), (a9, .inl (y9, 38, .inr (.inl (fun _ => 0)))), (a10, .inl (y10, 2, .inl (fun _ => 0))), (a11, .inl (y11, 8, .inl (fun _ => 0))), (a12, .inl (y12, 8, .inl (fun _ => 0))), (a13, .inl (y13, 64, .inl (fun _ => 0))), (a14, .inl (y14, 200, .inl (fun _ => 0))), (a15, .inl (y15, 4, .inl (fun _ => 0))), (a16, .inl (y16, 240, .inl (fun _ => 0))), (a0, .inr (11, [.int 0, .ref a1, .int 0, .int 0, .int 0, .int 0, .int 0, .int 0, .int 0, .int 0, .int 0, .int 0, .long 0, .int 0, .ref a2, .ref a3, .ref a4, .ref a5, .ref a6, .ref a7, .ref a8, .ref a9, .ref a10, .int 0, .int 0, .int 0, .int 0, .int (-1), .int (-1), .long 0, .long 0, .ref a11, .ref a12, .int 0, .int (-1), .int 0, .ref a13, .int 0, .ref a14, .ref a15, .int 0, .int 0, .ref a16, .int 0, .int 0, .int 0, .int 0])), (a2, .inl (y2, 373, .inl (upd (upd (fun _ => 0) 60 2) 62 2)))] ++ (xw Ar Cr 16 cst csl (cso ad) ++ [])) H) (hD : va_D (LF s) ([(o, .inl (yo, 1, .inr (.inl (fun _ => 0)))), (a1, .inl (y1, 940, .inl (fun _ => 0))), (a3, .inl (y3, 61, .inl (fun _ => 0))), (a4, .inl (y4, 746, .inl (fun _ => 0))), (a5, .inl (y5, 560, .inl (fun _ => 0))), (a6, .inl (y6, 70, .inl (fun _ => 0))), (a7, .inl (y7, 19, .inr (.inl (fun _ => 0)))), (a8, .inl (y8, 19, .inr (.inl (fun _ => 0)))), (a9, .inl (y9, 38, .inr (.inl (fun _ => 0)))), (a10, .inl (y10, 2, .inl (fun _ => 0))), (a11, .inl (y11, 8, .inl (fun _ => 0))), (a12, .inl (y12, 8, .inl (fun _ => 0))), (a13, .inl (y13, 64, .inl (fun _ => 0))), (a14, .inl (y14, 200, .inl (fun _ => 0))), (a15, .inl (y15, 4, .inl (fun _ => 0))), (a16, .inl (y16, 240, .inl (fun _ => 0))), (a0, .inr (11, [.int 0, .ref a1, .int 0, .int 0, .int 0, .int 0, .int 0, .int 0, .int 0, .int 0, .int 0, .int 0, .long 0, .int 0, .ref a2, .ref a3, .ref a4, .ref a5, .ref a6, .ref a7, .ref a8, .ref a9, .ref a10, .int 0, .int 0, .int 0, .int 0, .int (-1), .int (-1), .long 0, .long 0, .ref a11, .ref a12, .int 0, .int (-1), .int 0, .ref a13, .int 0, .ref a14, .ref a15, .int 0, .int 0, .ref a16, .int 0, .int 0, .int 0, .int 0])), (a2, .inl (y2, 373, .inl (upd (upd (fun _ => 0) 60 2) 62 2)))] ++ (xw Ar Cr 16 cst csl (cso ad) ++ []))) (hK : va_K (dC, dI) vwCl ([(yo, .long), (y1, .int), (y2, .int), (y3, .int), (y4, .int), (y5, .int), (y6, .int), (y7, .long), (y8, .long), (y9, .long), (y10, .boolean), (y11, .int), (y12, .int), (y13, .int), (y14, .int), (y15, .int), (y16, .int)] ++ (xt Cr ++ [])) s) : LH dC dI s H Ar Cr 16 cst csl (cso ad) (mA [a0, a1, a2, a3, a4, a5, a6, a7, a8, a9, a10, a11, a12, a13, a14, a15, a16]) (mC [y1, y1, y2, y3, y4, y5, y6, y7, y8, y9, y10, y11, y12, y13, y14, y15, y16] y1) mst msl o yo := by
  have hm : ∀ k, k < 17 → ∃ e : va_E, ([(o, .inl (yo, 1, .inr (.inl (fun _ => 0)))), (a1, .inl (y1, 940, .inl (fun _ => 0))), (a3, .inl (y3, 61, .inl (fun _ => 0))), (a4, .inl (y4, 746, .inl (fun _ => 0))), (a5, .inl (y5, 560, .inl (fun _ => 0))), (a6, .inl (y6, 70, .inl (fun _ => 0))), (a7, .inl (y7, 19, .inr (.inl (fun _ => 0)))), (a8, .inl (y8, 19, .inr (.inl (fun _ => 0)))), (a9, .inl (y9, 38, .inr (.inl (fun _ => 0)))), (a10, .inl (y10, 2, .inl (fun _ => 0))), (a11, .inl (y11, 8, .inl (fun _ => 0))), (a12, .inl (y12, 8, .inl (fun _ => 0))), (a13, .inl (y13, 64, .inl (fun _ => 0))), (a14, .inl (y14, 200, .inl (fun _ => 0))), (a15, .inl (y15, 4, .inl (fun _ => 0))), (a16, .inl (y16, 240, .inl (fun _ => 0))), (a0, .inr (11, [.int 0, .ref a1, .int 0, .int 0, .int 0, .int 0, .int 0, .int 0, .int 0, .int 0, .int 0, .int 0, .long 0, .int 0, .ref a2, .ref a3, .ref a4, .ref a5, .ref a6, .ref a7, .ref a8, .ref a9, .ref a10, .int 0, .int 0, .int 0, .int 0, .int (-1), .int (-1), .long 0, .long 0, .ref a11, .ref a12, .int 0, .int (-1), .int 0, .ref a13, .int 0, .ref a14, .ref a15, .int 0, .int 0, .ref a16, .int 0, .int 0, .int 0, .int 0])), (a2, .inl (y2, 373, .inl (upd (upd (fun _ => 0) 60 2) 62 2)))] ++ (xw Ar Cr 16 cst csl (cso ad) ++ []))[mpos.getD k 99]? = some ((mA [a0, a1, a2, a3, a4, a5, a6, a7, a8, a9, a10, a11, a12, a13, a14, a15, a16]) k, e) := by
    intro k hk
    match k, hk with
    | 0, _ => exact ⟨_, rfl⟩
    | 1, _ => exact ⟨_, rfl⟩
    | 2, _ => exact ⟨_, rfl⟩
    | 3, _ => exact ⟨_, rfl⟩
    | 4, _ => exact ⟨_, rfl⟩
    | 5, _ => exact ⟨_, rfl⟩
    | 6, _ => exact ⟨_, rfl⟩
    | 7, _ => exact ⟨_, rfl⟩
    | 8, _ => exact ⟨_, rfl⟩
    | 9, _ => exact ⟨_, rfl⟩
    | 10, _ => exact ⟨_, rfl⟩
    | 11, _ => exact ⟨_, rfl⟩
    | 12, _ => exact ⟨_, rfl⟩
    | 13, _ => exact ⟨_, rfl⟩
    | 14, _ => exact ⟨_, rfl⟩
    | 15, _ => exact ⟨_, rfl⟩
    | 16, _ => exact ⟨_, rfl⟩
    | k + 17, h => exact absurd h (by omega)
  have hx : ∀ r, r < 296 → ∃ e : va_E, ([(o, .inl (yo, 1, .inr (.inl (fun _ => 0)))), (a1, .inl (y1, 940, .inl (fun _ => 0))), (a3, .inl (y3, 61, .inl (fun _ => 0))), (a4, .inl (y4, 746, .inl (fun _ => 0))), (a5, .inl (y5, 560, .inl (fun _ => 0))), (a6, .inl (y6, 70, .inl (fun _ => 0))), (a7, .inl (y7, 19, .inr (.inl (fun _ => 0)))), (a8, .inl (y8, 19, .inr (.inl (fun _ => 0)))), (a9, .inl (y9, 38, .inr (.inl (fun _ => 0)))), (a10, .inl (y10, 2, .inl (fun _ => 0))), (a11, .inl (y11, 8, .inl (fun _ => 0))), (a12, .inl (y12, 8, .inl (fun _ => 0))), (a13, .inl (y13, 64, .inl (fun _ => 0))), (a14, .inl (y14, 200, .inl (fun _ => 0))), (a15, .inl (y15, 4, .inl (fun _ => 0))), (a16, .inl (y16, 240, .inl (fun _ => 0))), (a0, .inr (11, [.int 0, .ref a1, .int 0, .int 0, .int 0, .int 0, .int 0, .int 0, .int 0, .int 0, .int 0, .int 0, .long 0, .int 0, .ref a2, .ref a3, .ref a4, .ref a5, .ref a6, .ref a7, .ref a8, .ref a9, .ref a10, .int 0, .int 0, .int 0, .int 0, .int (-1), .int (-1), .long 0, .long 0, .ref a11, .ref a12, .int 0, .int (-1), .int 0, .ref a13, .int 0, .ref a14, .ref a15, .int 0, .int 0, .ref a16, .int 0, .int 0, .int 0, .int 0])), (a2, .inl (y2, 373, .inl (upd (upd (fun _ => 0) 60 2) 62 2)))] ++ (xw Ar Cr 16 cst csl (cso ad) ++ []))[18 + r]? = some (Ar r, e) := by
    intro r hr
    refine ⟨xcell Ar Cr 16 (cst r) (csl r) (cso ad r) r, ?_⟩
    rw [List.getElem?_append_right (Nat.le_add_right 18 r), List.append_nil]
    show (xw Ar Cr 16 cst csl (cso ad))[18 + r - 18]? = _
    rw [show 18 + r - 18 = r by omega]
    exact xw_at hr
  have ho : ([(o, .inl (yo, 1, .inr (.inl (fun _ => 0)))), (a1, .inl (y1, 940, .inl (fun _ => 0))), (a3, .inl (y3, 61, .inl (fun _ => 0))), (a4, .inl (y4, 746, .inl (fun _ => 0))), (a5, .inl (y5, 560, .inl (fun _ => 0))), (a6, .inl (y6, 70, .inl (fun _ => 0))), (a7, .inl (y7, 19, .inr (.inl (fun _ => 0)))), (a8, .inl (y8, 19, .inr (.inl (fun _ => 0)))), (a9, .inl (y9, 38, .inr (.inl (fun _ => 0)))), (a10, .inl (y10, 2, .inl (fun _ => 0))), (a11, .inl (y11, 8, .inl (fun _ => 0))), (a12, .inl (y12, 8, .inl (fun _ => 0))), (a13, .inl (y13, 64, .inl (fun _ => 0))), (a14, .inl (y14, 200, .inl (fun _ => 0))), (a15, .inl (y15, 4, .inl (fun _ => 0))), (a16, .inl (y16, 240, .inl (fun _ => 0))), (a0, .inr (11, [.int 0, .ref a1, .int 0, .int 0, .int 0, .int 0, .int 0, .int 0, .int 0, .int 0, .int 0, .int 0, .long 0, .int 0, .ref a2, .ref a3, .ref a4, .ref a5, .ref a6, .ref a7, .ref a8, .ref a9, .ref a10, .int 0, .int 0, .int 0, .int 0, .int (-1), .int (-1), .long 0, .long 0, .ref a11, .ref a12, .int 0, .int (-1), .int 0, .ref a13, .int 0, .ref a14, .ref a15, .int 0, .int 0, .ref a16, .int 0, .int 0, .int 0, .int 0])), (a2, .inl (y2, 373, .inl (upd (upd (fun _ => 0) 60 2) 62 2)))] ++ (xw Ar Cr 16 cst csl (cso ad) ++ []))[0]? = some (o, _) := rfl
  refine ⟨⟨kN, fun i j hi hj e => ?_, fun r hr => ?_, fun k hk => ?_, hD.2 _ _ ho, fun r k hr hk e => ?_, fun r hr e => ?_, fun k hk e => ?_⟩, ?_, ?_, ⟨_, zj_cons (hP 0 _ rfl) zj_nil⟩, ?_, ?_, ?_⟩
  · obtain ⟨e1, h1⟩ := hm i hi
    obtain ⟨e2, h2⟩ := hm j hj
    exact mpos_inj i hi j hj (hD.1 _ _ _ _ h1 h2 e)
  · obtain ⟨e1, h1⟩ := hx r hr
    exact hD.2 _ _ h1
  · obtain ⟨e1, h1⟩ := hm k hk
    exact hD.2 _ _ h1
  · obtain ⟨e1, h1⟩ := hx r hr
    obtain ⟨e2, h2⟩ := hm k hk
    have := hD.1 _ _ _ _ h1 h2 e
    have := (mpos_lt k hk).1
    omega
  · obtain ⟨e1, h1⟩ := hx r hr
    have := hD.1 _ _ _ _ h1 ho e
    omega
  · obtain ⟨e1, h1⟩ := hm k hk
    exact (mpos_lt k hk).2 (hD.1 _ _ _ _ h1 ho e)
  · exact zj_mem.mpr (fun q hq => zj_mem.mp hP q (List.mem_append_right _ (List.mem_append_left _ hq)))
  · exact (zj_cons (hP 16 _ rfl) (zj_cons (hP 1 _ rfl) (zj_cons (va_ati (hP 17 _ rfl) (fun j _ => m2_eq j)) (zj_cons (hP 2 _ rfl) (zj_cons (hP 3 _ rfl) (zj_cons (hP 4 _ rfl) (zj_cons (hP 5 _ rfl) (zj_cons (hP 6 _ rfl) (zj_cons (hP 7 _ rfl) (zj_cons (hP 8 _ rfl) (zj_cons (hP 9 _ rfl) (zj_cons (hP 10 _ rfl) (zj_cons (hP 11 _ rfl) (zj_cons (hP 12 _ rfl) (zj_cons (hP 13 _ rfl) (zj_cons (hP 14 _ rfl) (zj_cons (hP 15 _ rfl) zj_nil)))))))))))))))))
  · exact ⟨hK.1, fun k q hk => by
      obtain ⟨j, hj⟩ := List.mem_iff_getElem?.mp (show q ∈ [(yo, .long), (y1, .int), (y2, .int), (y3, .int), (y4, .int), (y5, .int), (y6, .int), (y7, .long), (y8, .long), (y9, .long), (y10, .boolean), (y11, .int), (y12, .int), (y13, .int), (y14, .int), (y15, .int), (y16, .int)] ++ (xt Cr ++ []) from List.mem_append_right _ (List.mem_append_left _ (List.mem_of_getElem? hk)))
      exact hK.2 j q hj⟩
  · exact hK.sub (tys' := [(y1, .int), (y2, .int), (y3, .int), (y4, .int), (y5, .int), (y6, .int), (y7, .long), (y8, .long), (y9, .long), (y10, .boolean), (y11, .int), (y12, .int), (y13, .int), (y14, .int), (y15, .int), (y16, .int)]) [1, 2, 3, 4, 5, 6, 7, 8, 9, 10, 11, 12, 13, 14, 15, 16] rfl
  · exact hK.sub (tys' := [(yo, .long)]) [0] rfl
