theorem zz_xc13 {dC : Nat → ClassId} {dI : Nat → Nat → Nat} {A : Nat → Nat} {C : Nat → ClassId} {nb : Nat} {st st' : Nat → Nat → Int32} {sl sl' : Nat → Nat → Int64} {so so' : Nat → XR} {H : Heap} (h : va_P (dC, dI) vwCl (xw A C nb st sl so) H) (h' : va_P (dC, dI) vwCl (xw A C nb st' sl' so') H) : st 1 13 = st' 1 13 := by
  have z := zz_ob h h' (i := 1) (i' := 1) rfl rfl (k := 13) rfl (by decide)
  have z2 : Value.int (st 1 13) = Value.int (st' 1 13) := z
  injection z2
theorem zz_xc16 {dC : Nat → ClassId} {dI : Nat → Nat → Nat} {A : Nat → Nat} {C : Nat → ClassId} {nb : Nat} {st st' : Nat → Nat → Int32} {sl sl' : Nat → Nat → Int64} {so so' : Nat → XR} {H : Heap} (h : va_P (dC, dI) vwCl (xw A C nb st sl so) H) (h' : va_P (dC, dI) vwCl (xw A C nb st' sl' so') H) : st 0 16 = st' 0 16 := by
  have z := zz_ob h h' (i := 0) (i' := 0) rfl rfl (k := 16) rfl (by decide)
  have z2 : Value.int (st 0 16) = Value.int (st' 0 16) := z
  injection z2
theorem zz_postv {l : Launch} {y : MethodName} {ws : List Cond} {rm : Room} {Pc : Array Value → State → Prop} {S : Type} {P P' : S → Prop} {B : S → State → Prop} {A : Nat → Prop} {mc ms : Nat} {free : Addr → Prop} (h : Met l y ws rm Pc (va_Qv P B A) mc ms free) (hq : ∀ x, P x → P' x) : Met l y ws rm Pc (va_Qv P' B A) mc ms free := by
  intro p e ha hf hc s m args below hfr hap hP hK
  obtain ⟨n, o, w1, r1, e1, ⟨⟨x, eo, hp, hb⟩, hfr2⟩, L1⟩ := h p e ha hf hc s m args below hfr hap hP hK
  exact ⟨n, o, w1, r1, e1, ⟨⟨x, eo, hq x hp, hb⟩, hfr2⟩, L1⟩
theorem dc_bk {o k : Nat} (h : 4 ≤ o ∧ o < 10) : dc 6 o k = true := by
  unfold dc; rw [show (decide (4 ≤ o) && decide (o < 10)) = true from by simp only [Bool.and_eq_true, decide_eq_true_eq]; exact h]; simp
