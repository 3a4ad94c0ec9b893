/-! the builder of texts: a world of two cells -/
def sw (a v : Nat) (cB : ClassId) (nb : Nat) (f : Nat → Int32) (ml cn : Int32) : va_W := [(a, .inr (0, [.ref v, .int 0, .int ml, .int cn])), (v, .inl (cB, nb, .inl f))]
def sA (a v sz : Nat) : Nat → Prop := fun q => q = a ∨ q = v ∨ sz ≤ q
abbrev SU : Type := Nat × ClassId × Nat × (Nat → Int32) × Int32 × Int32
theorem sD {a v v0 sz : Nat} (hne : a ≠ v) (hv : v = v0 ∨ sz ≤ v) (cB : ClassId) (nb : Nat) (f : Nat → Int32) (ml cn : Int32) : va_D (sA a v0 sz) (sw a v cB nb f ml cn) := by
  refine ⟨fun i j p q hp hq hpq => ?_, fun k q hq => ?_⟩
  · match i, j, hp, hq with
    | 0, 0, _, _ => rfl
    | 1, 1, _, _ => rfl
    | 0, 1, hp, hq => cases hp; cases hq; exact absurd hpq hne
    | 1, 0, hp, hq => cases hp; cases hq; exact absurd hpq.symm hne
    | 0, j + 2, _, hq => exact nomatch hq
    | 1, j + 2, _, hq => exact nomatch hq
    | i + 2, _, hp, _ => exact nomatch hp
  · match k, hq with
    | 0, hq => cases hq; exact Or.inl rfl
    | 1, hq => cases hq; exact hv.elim (fun e => Or.inr (Or.inl e)) (fun e => Or.inr (Or.inr e))
    | k + 2, hq => exact nomatch hq
theorem sA.le {a v v0 sz n : Nat} (hv : v = v0 ∨ sz ≤ v) (h : sz ≤ n) (q : Nat) (hq : sA a v n q) : sA a v0 sz q := by
  rcases hq with e | e | e
  · exact Or.inl e
  · exact hv.elim (fun z => Or.inr (Or.inl (e.trans z))) (fun z => Or.inr (Or.inr (by rw [e]; exact z)))
  · exact Or.inr (Or.inr (Nat.le_trans h e))
def sPre (E : EP) (dC : Nat → ClassId) (dI : Nat → Nat → Nat) (a v : Nat) (cB : ClassId) (nb : Nat) (f : Nat → Int32) (ml cn : Int32) (sz : Nat) (U : State) : Prop := U.heap.size = sz ∧ va_P (dC, dI) vwCl (sw a v cB nb f ml cn) U.heap ∧ va_K (dC, dI) vwCl [(cB, .byte)] U ∧ E (sA a v sz) U U.heap
theorem sPre.blind {ad : Nat → Nat} {E : EP} (hEE : EC ad E) {dC : Nat → ClassId} {dI : Nat → Nat → Nat} {a v : Nat} {cB : ClassId} {nb : Nat} {f : Nat → Int32} {ml cn : Int32} {sz : Nat} {U : State} {g : JFrame} {mk : MethodId} {ar : Array Value} (q : sPre E dC dI a v cB nb f ml cn sz U) : sPre E dC dI a v cB nb f ml cn sz (U.calling g mk ar) :=
  ⟨q.1, q.2.1, va_K.moved (u := U) (U := U.calling g mk ar) (Vm.Alike.refl U.vm) q.2.2.1, hEE.2.2 _ _ _ _ _ q.2.2.2⟩
theorem sPre.of {ad : Nat → Nat} {E : EP} (hEE : EC ad E) {dC : Nat → ClassId} {dI : Nat → Nat → Nat} {a v : Nat} {cB : ClassId} {nb : Nat} {f : Nat → Int32} {ml cn : Int32} {s U : State} {H : Heap} {locs : List Loc} {F : Nat → Prop} (hP : va_P (dC, dI) vwCl (sw a v cB nb f ml cn) H) (hK : va_K (dC, dI) vwCl [(cB, .byte)] s) (hE : E F s s.heap) (hS : va_S F s.heap H locs) (hF : ∀ q, sA a v H.size q → F q) (hU : U.heap = H) (hW : s.WarmedH U.vm) : sPre E dC dI a v cB nb f ml cn H.size U :=
  ⟨by rw [hU], by rw [hU]; exact hP, va_K.moved hW.alike hK, hEE.2.1 _ _ _ _ _ _ hE hS hF hU hW⟩
def sB (dC : Nat → ClassId) (dI : Nat → Nat → Nat) (a v sz : Nat) (x : SU) (t : State) : Prop := va_P (dC, dI) vwCl (sw a x.1 x.2.1 x.2.2.1 x.2.2.2.1 x.2.2.2.2.1 x.2.2.2.2.2) t.heap ∧ va_K (dC, dI) vwCl [(x.2.1, .byte)] t ∧ a ≠ x.1 ∧ (x.1 = v ∨ sz ≤ x.1) ∧ sb_Fit x.2.2.2.1
theorem sB.of {dC : Nat → ClassId} {dI : Nat → Nat → Nat} {a v v0 sz : Nat} {cB : ClassId} {nb : Nat} {f : Nat → Int32} {ml cn : Int32} {s t : State} {H : Heap} (ht : t.heap = H) (hW : s.WarmedH t.vm) (hP : va_P (dC, dI) vwCl (sw a v cB nb f ml cn) H) (hK : va_K (dC, dI) vwCl [(cB, .byte)] s) (hne : a ≠ v) (hv : v = v0 ∨ sz ≤ v) (hF : sb_Fit f) : sB dC dI a v0 sz (v, cB, nb, f, ml, cn) t :=
  ⟨by show va_P _ _ (sw a v cB nb f ml cn) t.heap; rw [ht]; exact hP, va_K.moved hW.alike hK, hne, hv, hF⟩
theorem sv.tr {v v0 v1 sz n : Nat} (hv : v = v0 ∨ sz ≤ v) (h : v1 = v ∨ n ≤ v1) (hn : sz ≤ n) : v1 = v0 ∨ sz ≤ v1 := by
  rcases h with e | e
  · rw [e]; exact hv
  · exact Or.inr (Nat.le_trans hn e)
theorem zz_sub0 {a b : Nat} (ha : a < 2 ^ 30) (hb : b < 2 ^ 30) : nI a - nI b ≤ 0 ↔ a ≤ b := by
  rw [Int32.le_iff_toInt_le, pk_sub_toInt ha hb, Int32.toInt_zero]; omega
theorem zz_fitn (x : Int32) : fits .byte (.int (vp_nar .byte x)) = true := by rw [vp_nar_byte]; exact pk_fb x
theorem sv_fit (i j : Nat) (hi : i < 30) : fits .byte (.int ((sv_byt.getD i []).getD j 0)) = true := by
  by_cases hj : j < 13
  · exact (show ∀ i, i < 30 → ∀ j, j < 13 → fits .byte (.int ((sv_byt.getD i []).getD j 0)) = true by decide) i hi j hj
  · have hl : (sv_byt.getD i []).length ≤ 13 := (show ∀ i, i < 30 → (sv_byt.getD i []).length ≤ 13 by decide) i hi
    show fits .byte (.int (((sv_byt.getD i [])[j]?).getD 0)) = true
    rw [List.getElem?_eq_none (by omega)]; decide
theorem zz_min {x y : Nat} (h : x ≤ y) (hy : y < 2 ^ 31) : (if nI y < nI x then nI y else nI x) = nI x := if_neg (nI_nlt h hy)
theorem zz_max18 {x : Nat} (h : x ≤ 18) : (if nI x < (18 : Int32) then (18 : Int32) else nI x) = 18 := by
  rcases Nat.lt_or_ge x 18 with e | e
  · exact if_pos (show nI x < nI 18 from nI_lt e (by omega))
  · obtain rfl : x = 18 := by omega
    exact if_neg (by decide)
