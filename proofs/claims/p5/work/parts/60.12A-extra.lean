def lA (A : Nat → Nat) (o sz : Nat) : Nat → Prop := fun q => XA A sz q ∨ q = o
def lPre (E : EP) (dC : Nat → ClassId) (dI : Nat → Nat → Nat) (A : Nat → Nat) (C : Nat → ClassId) (nb sz : Nat) (st : Nat → Nat → Int32) (sl : Nat → Nat → Int64) (so : Nat → XR) (o : Nat) (yo : ClassId) (g : Nat → Int64) (U : State) : Prop := U.heap.size = sz ∧ va_P (dC, dI) vwCl (xw A C nb st sl so) U.heap ∧ va_P (dC, dI) vwCl [(o, .inl (yo, 1, .inr (.inl g)))] U.heap ∧ va_K (dC, dI) vwCl (xt C) U ∧ va_K (dC, dI) vwCl [(yo, .long)] U ∧ E (lA A o sz) U U.heap
theorem lPre.blind {ad : Nat → Nat} {E : EP} (hEE : EC ad E) {dC : Nat → ClassId} {dI : Nat → Nat → Nat} {A : Nat → Nat} {C : Nat → ClassId} {nb sz : Nat} {st : Nat → Nat → Int32} {sl : Nat → Nat → Int64} {so : Nat → XR} {o : Nat} {yo : ClassId} {g : Nat → Int64} {U : State} {gf : JFrame} {mk : MethodId} {a : Array Value} (q : lPre E dC dI A C nb sz st sl so o yo g U) : lPre E dC dI A C nb sz st sl so o yo g (U.calling gf mk a) :=
  ⟨q.1, q.2.1, q.2.2.1, va_K.moved (u := U) (U := U.calling gf mk a) (Vm.Alike.refl U.vm) q.2.2.2.1, va_K.moved (u := U) (U := U.calling gf mk a) (Vm.Alike.refl U.vm) q.2.2.2.2.1, hEE.2.2 _ _ _ _ _ q.2.2.2.2.2⟩
theorem lPre.of {ad : Nat → Nat} {E : EP} (hEE : EC ad E) {dC : Nat → ClassId} {dI : Nat → Nat → Nat} {A : Nat → Nat} {C : Nat → ClassId} {nb : Nat} {st : Nat → Nat → Int32} {sl : Nat → Nat → Int64} {so : Nat → XR} {o : Nat} {yo : ClassId} {g : Nat → Int64} {s U : State} {H : Heap} {locs : List Loc} {F : Nat → Prop} (hP : va_P (dC, dI) vwCl (xw A C nb st sl so) H) (hPo : va_P (dC, dI) vwCl [(o, .inl (yo, 1, .inr (.inl g)))] H) (hK : va_K (dC, dI) vwCl (xt C) s) (hKo : va_K (dC, dI) vwCl [(yo, .long)] s) (hE : E F s s.heap) (hS : va_S F s.heap H locs) (hF : ∀ q, lA A o H.size q → F q) (hU : U.heap = H) (hW : s.WarmedH U.vm) : lPre E dC dI A C nb H.size st sl so o yo g U :=
  ⟨by rw [hU], by rw [hU]; exact hP, by rw [hU]; exact hPo, va_K.moved hW.alike hK, va_K.moved hW.alike hKo, hEE.2.1 _ _ _ _ _ _ hE hS hF hU hW⟩
theorem lkept {A : Nat → Nat} {o : Nat} {e : va_E} {H H1 : Heap} (ho : ∀ k, k < 296 → A k ≠ o) (hol : o < H.size) (hk : ∀ q : Nat, q < H.size → ¬ XA A H.size q → H1[q]? = H[q]?) : ∀ (k : Nat) (q : Nat × va_E), ([(o, e)] : va_W)[k]? = some q → H1[q.1]? = H[q.1]? := by
  intro k q h
  match k, h with
  | 0, h =>
    cases h
    refine hk o hol (fun z => ?_)
    rcases z with ⟨k, hk, e⟩ | z
    · exact ho k hk e.symm
    · exact absurd hol (Nat.not_lt.mpr z)
  | k + 1, h => exact nomatch h
theorem xw_len {A : Nat → Nat} {C : Nat → ClassId} {nb : Nat} {st : Nat → Nat → Int32} {sl : Nat → Nat → Int64} {so : Nat → XR} : (xw A C nb st sl so).length = 296 := by unfold xw; rw [List.length_map, List.length_range]
theorem xt_len {C : Nat → ClassId} : (xt C).length = 296 := by unfold xt; rw [List.length_map, List.length_range]
theorem lcat_at {α : Type} {w : List α} {x : α} (h : w.length = 296) : (w ++ [x])[296]? = some x := by rw [List.getElem?_append_right (by omega), h]; rfl
theorem lcat_set {α : Type} {w : List α} {x y : α} (h : w.length = 296) : (w ++ [x]).set 296 y = w ++ [y] := by rw [List.set_append_right _ _ (by omega), h]; rfl
theorem lcat_l {D : va_G} {cl : List vw_C} {w v : va_W} {H : Heap} (h : va_P D cl (w ++ v) H) : va_P D cl w H := fun k q hk => h k q (by rw [List.getElem?_append_left (by rcases Nat.lt_or_ge k w.length with z | z; exact z; rw [List.getElem?_eq_none z] at hk; cases hk)]; exact hk)
theorem lcat_r {D : va_G} {cl : List vw_C} {w : va_W} {x : Nat × va_E} {H : Heap} (hl : w.length = 296) (h : va_P D cl (w ++ [x]) H) : va_P D cl [x] H := by
  intro k q hk
  match k, hk with
  | 0, hk => cases hk; exact h 296 _ (lcat_at hl)
  | k + 1, hk => exact nomatch hk
theorem lDx {A : Nat → Nat} (hN : XN A) {o : Nat} (ho : ∀ k, k < 296 → A k ≠ o) (C : Nat → ClassId) (nb : Nat) (st : Nat → Nat → Int32) (sl : Nat → Nat → Int64) (so : Nat → XR) (e : va_E) (sz : Nat) : va_D (lA A o sz) (xw A C nb st sl so ++ [(o, e)]) := by
  have hx := xD hN C nb st sl so sz
  have sp : ∀ (i : Nat) (p : Nat × va_E), (xw A C nb st sl so ++ [(o, e)])[i]? = some p → (i < 296 ∧ (xw A C nb st sl so)[i]? = some p) ∨ (i = 296 ∧ p = (o, e)) := by
    intro i p h
    rcases Nat.lt_or_ge i 296 with z | z
    · rw [List.getElem?_append_left (by rw [xw_len]; exact z)] at h; exact Or.inl ⟨z, h⟩
    · rw [List.getElem?_append_right (by rw [xw_len]; exact z), xw_len] at h
      match hi : i - 296, h with
      | 0, h => cases h; exact Or.inr ⟨by omega, rfl⟩
      | k + 1, h => exact nomatch h
  refine ⟨fun i j p q hp hq hpq => ?_, fun k q hq => ?_⟩
  · rcases sp i p hp with ⟨z1, z2⟩ | ⟨z1, z2⟩
    · rcases sp j q hq with ⟨y1, y2⟩ | ⟨y1, y2⟩
      · exact hx.1 i j p q z2 y2 hpq
      · rw [y2] at hpq
        have := xw_fst z2
        exact absurd (by rw [← this.2]; exact hpq) (ho i this.1)
    · rcases sp j q hq with ⟨y1, y2⟩ | ⟨y1, y2⟩
      · rw [z2] at hpq
        have := xw_fst y2
        exact absurd (by rw [← this.2]; exact hpq.symm) (ho j this.1)
      · omega
  · rcases sp k q hq with ⟨z1, z2⟩ | ⟨z1, z2⟩
    · exact Or.inl (hx.2 k q z2)
    · rw [z2]; exact Or.inr rfl

def EX (A : Nat → Prop) (U : State) (H : Heap) : Prop := (va_Nw (.declares ⟨"java/lang/RuntimeException", "<init>", "()V"⟩) U ∧ va_Nw (.declares ⟨"java/lang/Exception", "<init>", "()V"⟩) U ∧ va_Nw (.declares ⟨"java/lang/Throwable", "<init>", "()V"⟩) U ∧ va_Nw (.castable "java/util/NoSuchElementException" "java/util/NoSuchElementException") U) ∧ vx_Zq Bundle.tN "UNASSIGNED_STACK" Bundle.steD A U H ∧ vx_Zq Bundle.tN "SUPPRESSED_SENTINEL" Bundle.listD A U H
theorem EX.call {A B : Nat → Prop} {s U : State} {H : Heap} {locs : List Loc} (h : EX A s s.heap) (hS : va_S A s.heap H locs) (hB : ∀ q, B q → A q) (hU : U.heap = H) (hW : s.WarmedH U.vm) : EX B U U.heap := by
  obtain ⟨⟨a1, a2, a3, a4⟩, h4, h5⟩ := h
  rw [hU]
  exact ⟨⟨va_Nw.warmD hW a1, va_Nw.warmD hW a2, va_Nw.warmD hW a3, va_Nw.warmC hW a4⟩, vx_Zq.moved hW.alike ((h4.kept hS.2.1).narrow hB), vx_Zq.moved hW.alike ((h5.kept hS.2.1).narrow hB)⟩
theorem EX.blind {A : Nat → Prop} {U : State} {g : JFrame} {mk : MethodId} {a : Array Value} (h : EX A U U.heap) : EX A (U.calling g mk a) (U.calling g mk a).heap := by
  obtain ⟨⟨a1, a2, a3, a4⟩, h4, h5⟩ := h
  have hv : U.vm.Alike (U.calling g mk a).vm := Vm.Alike.refl U.vm
  exact ⟨⟨va_Nw.same rfl rfl a1, va_Nw.same rfl rfl a2, va_Nw.same rfl rfl a3, va_Nw.same rfl rfl a4⟩, vx_Zq.moved hv h4, vx_Zq.moved hv h5⟩
theorem EX.start {args : Array Value} {s : State} {A : Nat → Prop} (hts0 : ∀ w ∈ lw_tbl, w.before args s = true) (hgv : (Jvm.Cond.and given_1 narrow_1).before args s = true) (hA : ∀ a : Nat, a < s.heap.size → ¬ A a) : EX A s s.heap := by
  have hs := flat_of_before _ hgv
  exact ⟨⟨va_Nw.of rfl (hts0 _ (by decide +kernel)), va_Nw.of rfl (hts0 _ (by decide +kernel)), va_Nw.of rfl (hts0 _ (by decide +kernel)), va_Nw.of rfl (hts0 _ (by decide +kernel))⟩, vx_Zqof (hts0 _ (by decide +kernel)) (hts0 _ (by decide +kernel)) (hs _ (by decide +kernel)) hA, vx_Zqof (hts0 _ (by decide +kernel)) (hts0 _ (by decide +kernel)) (hs _ (by decide +kernel)) hA⟩
theorem vx_bad : ∀ w ∈ (vx_at0 RX11 139 "java/util/NoSuchElementException" ["java/lang/RuntimeException", "java/lang/Exception"]).filter (fun w => !goodWord w), w ∈ ([.declares ⟨"java/lang/RuntimeException", "<init>", "()V"⟩, .declares ⟨"java/lang/Exception", "<init>", "()V"⟩, .declares ⟨"java/lang/Throwable", "<init>", "()V"⟩, .castable "java/util/NoSuchElementException" "java/util/NoSuchElementException"] : List Cond) := by decide +kernel
theorem vx_allot : ∀ w ∈ Cond.classLink RX11 137 "java/util/NoSuchElementException" :: Cond.initialized "java/util/NoSuchElementException" :: (vx_at0 RX11 139 "java/util/NoSuchElementException" ["java/lang/RuntimeException", "java/lang/Exception"]), vx_ot w = true := by decide +kernel
