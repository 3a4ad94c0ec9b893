/-! two contracts of one method at once, the second one's picture read off the first's -/
theorem zz_bothx {l : Launch} {y : MethodName} {ws : List Cond} {rm rm1 rm2 : Room} {Pc : Array Value → State → Prop} {S S' : Type} {P : Int32 → S → Prop} {R : Int32 → S → Prop} {B : S → State → Prop} {B' : S' → State → Prop} {A A' : Nat → Prop} {P' : Int32 → S' → Prop} {mc ms : Nat} {free : Addr → Prop} (h1 : Met l y ws rm1 Pc (va_Qi P B A) mc ms free) (h2 : Met l y ws rm2 Pc (va_Qi P' B' A') mc ms free) (hR : ∀ r x x' t, B x t → B' x' t → P' r x' → R r x) (k1 : rm1.frames ≤ rm.frames ∧ rm1.locals ≤ rm.locals ∧ rm1.cells ≤ rm.cells ∧ rm1.slots ≤ rm.slots) (k2 : rm2.frames ≤ rm.frames ∧ rm2.locals ≤ rm.locals ∧ rm2.cells ≤ rm.cells ∧ rm2.slots ≤ rm.slots) : Met l y ws rm Pc (va_Qi (fun r x => P r x ∧ R r x) B A) mc ms free := by
  intro p e ha hf hc s m args below hfr hap hP hK
  obtain ⟨n, o, w1, r1, e1, ⟨q1, q2⟩, L1⟩ := zz_both h1 h2 k1 k2 p e ha hf hc s m args below hfr hap hP hK
  obtain ⟨⟨r, x, eo, hp, hb⟩, hfr2⟩ := q1
  obtain ⟨⟨r', x', eo', hp', hb'⟩, _⟩ := q2
  have er : r = r' := by
    have h := eo.symm.trans eo'
    injection h with h
    injection h with h
    injection h
  exact ⟨n, o, w1, r1, e1, ⟨⟨r, x, eo, ⟨hp, by rw [er]; exact hR r' x x' _ hb hb' hp'⟩, hb⟩, hfr2⟩, L1⟩
theorem zz_bothv {l : Launch} {y : MethodName} {ws : List Cond} {rm rm1 rm2 : Room} {Pc : Array Value → State → Prop} {S S' : Type} {P : S → Prop} {R : S → Prop} {B : S → State → Prop} {B' : S' → State → Prop} {A A' : Nat → Prop} {P' : S' → Prop} {mc ms : Nat} {free : Addr → Prop} (h1 : Met l y ws rm1 Pc (va_Qv P B A) mc ms free) (h2 : Met l y ws rm2 Pc (va_Qv P' B' A') mc ms free) (hR : ∀ x x' t, B x t → B' x' t → P' x' → R x) (k1 : rm1.frames ≤ rm.frames ∧ rm1.locals ≤ rm.locals ∧ rm1.cells ≤ rm.cells ∧ rm1.slots ≤ rm.slots) (k2 : rm2.frames ≤ rm.frames ∧ rm2.locals ≤ rm.locals ∧ rm2.cells ≤ rm.cells ∧ rm2.slots ≤ rm.slots) : Met l y ws rm Pc (va_Qv (fun x => P x ∧ R x) B A) mc ms free := by
  intro p e ha hf hc s m args below hfr hap hP hK
  obtain ⟨n, o, w1, r1, e1, ⟨q1, q2⟩, L1⟩ := zz_both h1 h2 k1 k2 p e ha hf hc s m args below hfr hap hP hK
  obtain ⟨⟨x, eo, hp, hb⟩, hfr2⟩ := q1
  obtain ⟨⟨x', eo', hp', hb'⟩, _⟩ := q2
  exact ⟨n, o, w1, r1, e1, ⟨⟨x, eo, ⟨hp, hR x x' _ hb hb' hp'⟩, hb⟩, hfr2⟩, L1⟩
/-! one heap, two pictures: an object's numbers, an array's -/
theorem zz_ob {D : va_G} {cl : List vw_C} {W W' : va_W} {H : Heap} {i i' a ci : Nat} {fs fs' : List Value} (h : va_P D cl W H) (h' : va_P D cl W' H) (e : W[i]? = some (a, .inr (ci, fs))) (e' : W'[i']? = some (a, .inr (ci, fs'))) {k : Nat} {rr : vw_C} (hc : cl[ci]? = some rr) (hk : k < rr.2.2) : vp_V fs k = vp_V fs' k := by
  obtain ⟨r, c1, cell, q1, _, _, q4⟩ := h i _ e
  obtain ⟨r', c1', cell', q1', _, _, q4'⟩ := h' i' _ e'
  have e1 : r = rr := Option.some.inj (c1.symm.trans hc)
  have e2 : r' = rr := Option.some.inj (c1'.symm.trans hc)
  have e3 : cell = cell' := Option.some.inj (q1.symm.trans q1')
  subst e1 e2 e3
  exact Option.some.inj ((q4 k hk).symm.trans (q4' k hk))
theorem zz_mcell {dC : Nat → ClassId} {dI : Nat → Nat → Nat} {ar : Nat → Nat} {cy : Nat → ClassId} {st st' : Nat → Nat → Int32} {sl sl' : Nat → Nat → Int64} {H : Heap} (h : va_P (dC, dI) vwCl (mw ar cy st sl) H) (h' : va_P (dC, dI) vwCl (mw ar cy st' sl') H) : st 0 10 = st' 0 10 := by
  have z := zz_ob h h' (i := 0) (i' := 0) rfl rfl (k := 10) rfl (by decide)
  have z2 : Value.int (st 0 10) = Value.int (st' 0 10) := z
  injection z2
theorem zz_mline {dC : Nat → ClassId} {dI : Nat → Nat → Nat} {ar : Nat → Nat} {cy : Nat → ClassId} {st st' : Nat → Nat → Int32} {sl sl' : Nat → Nat → Int64} {H : Heap} (h : va_P (dC, dI) vwCl (mw ar cy st sl) H) (h' : va_P (dC, dI) vwCl (mw ar cy st' sl') H) : ∀ j, j < 200 → st 14 j = st' 14 j := fun j hj => by
  have e1 : H[ar 14]? = some (arrV (cy 14) 200 (fun j => Value.int (st 14 j))) := h 14 _ rfl
  have e2 : H[ar 14]? = some (arrV (cy 14) 200 (fun j => Value.int (st' 14 j))) := h' 14 _ rfl
  have e3 := Option.some.inj (e1.symm.trans e2)
  have r1 := arrV_read (cy 14) (fun j => Value.int (st 14 j)) hj
  rw [e3, arrV_read (cy 14) (fun j => Value.int (st' 14 j)) hj] at r1
  injection r1 with r1
  injection r1 with r1
  exact r1.symm
theorem LI.to {st st' : Nat → Nat → Int32} {n : Nat} (h : LI st n) (hn : n ≤ 40) (e : ∀ j, j < 200 → st' 14 j = st 14 j) : LI st' n := fun k hk => (h k hk).eq (fun j hj => e j (by omega))
theorem zz_post {l : Launch} {y : MethodName} {ws : List Cond} {rm : Room} {Pc : Array Value → State → Prop} {S : Type} {P P' : Int32 → S → Prop} {B : S → State → Prop} {A : Nat → Prop} {mc ms : Nat} {free : Addr → Prop} (h : Met l y ws rm Pc (va_Qi P B A) mc ms free) (hq : ∀ r x, P r x → P' r x) : Met l y ws rm Pc (va_Qi P' B A) mc ms free := by
  intro p e ha hf hc s m args below hfr hap hP hK
  obtain ⟨n, o, w1, r1, e1, ⟨⟨r, x, eo, hp, hb⟩, hfr2⟩, L1⟩ := h p e ha hf hc s m args below hfr hap hP hK
  exact ⟨n, o, w1, r1, e1, ⟨⟨r, x, eo, hq r x hp, hb⟩, hfr2⟩, L1⟩
theorem zz_01 {v : Int32} (h0 : (0 : Int32) ≤ v) (h1 : v ≤ 1) : v = 0 ∨ v = 1 := by
  obtain ⟨n, a, b, e⟩ := zz_rng (x := v) (a := 0) (b := 1) (by omega) h0 (by omega) h1
  rcases (show n = 0 ∨ n = 1 by omega) with rfl | rfl
  · exact Or.inl e
  · exact Or.inr e
