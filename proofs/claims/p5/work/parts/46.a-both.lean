/-! two contracts of one method hold at once: the machine goes one way -/
theorem zz_both {l : Launch} {y : MethodName} {ws : List Cond} {rm rm1 rm2 : Room} {Pc : Array Value → State → Prop} {Q1 Q2 : Array Value → State → Outcome → State → Prop} {mc ms : Nat} {free : Addr → Prop} (h1 : Met l y ws rm1 Pc Q1 mc ms free) (h2 : Met l y ws rm2 Pc Q2 mc ms free) (k1 : rm1.frames ≤ rm.frames ∧ rm1.locals ≤ rm.locals ∧ rm1.cells ≤ rm.cells ∧ rm1.slots ≤ rm.slots) (k2 : rm2.frames ≤ rm.frames ∧ rm2.locals ≤ rm.locals ∧ rm2.cells ≤ rm.cells ∧ rm2.slots ≤ rm.slots) : Met l y ws rm Pc (fun a st o t => Q1 a st o t ∧ Q2 a st o t) mc ms free := by
  intro p e ha hf hc s m args below hfr hap hP hK
  have ap : ∀ r : Room, (r.frames ≤ rm.frames ∧ r.locals ≤ rm.locals ∧ r.cells ≤ rm.cells ∧ r.slots ≤ rm.slots) → (headSpec ws r).appliesLoose y e.platform s = true := fun r k => by
    unfold Spec.appliesLoose at hap ⊢
    rw [hfr] at hap ⊢
    simp only [Bool.and_eq_true] at hap ⊢
    exact ⟨⟨hap.1.1, hasRoom_mono k.1 k.2.1 k.2.2.1 k.2.2.2 hap.1.2⟩, hap.2⟩
  obtain ⟨n1, o1, w1, r1, e1, q1, L1⟩ := h1 p e ha hf hc s m args below hfr (ap rm1 k1) hP hK
  obtain ⟨n2, o2, w2, r2, e2, q2, L2⟩ := h2 p e ha hf hc s m args below hfr (ap rm2 k2) hP hK
  have hn : n1 = n2 := by
    rcases Nat.lt_trichotomy n1 n2 with h | h | h
    · exact absurd (w2 n1 h) e1.not_within
    · exact h
    · exact absurd (w1 n2 h) e2.not_within
  subst hn
  have ho := e1.outcome_unique e2
  subst ho
  exact ⟨n1, _, w1, r1, e1, ⟨q1, q2⟩, L1⟩
theorem zz_bothi {l : Launch} {y : MethodName} {ws : List Cond} {rm rm1 rm2 : Room} {Pc : Array Value → State → Prop} {S S' : Type} {P : Int32 → S → Prop} {R : Int32 → Prop} {B : S → State → Prop} {B' : S' → State → Prop} {A A' : Nat → Prop} {P' : Int32 → S' → Prop} {mc ms : Nat} {free : Addr → Prop} (h1 : Met l y ws rm1 Pc (va_Qi P B A) mc ms free) (h2 : Met l y ws rm2 Pc (va_Qi P' B' A') mc ms free) (hR : ∀ r x, P' r x → R r) (k1 : rm1.frames ≤ rm.frames ∧ rm1.locals ≤ rm.locals ∧ rm1.cells ≤ rm.cells ∧ rm1.slots ≤ rm.slots) (k2 : rm2.frames ≤ rm.frames ∧ rm2.locals ≤ rm.locals ∧ rm2.cells ≤ rm.cells ∧ rm2.slots ≤ rm.slots) : Met l y ws rm Pc (va_Qi (fun r x => P r x ∧ R r) B A) mc ms free := by
  intro p e ha hf hc s m args below hfr hap hP hK
  obtain ⟨n, o, w1, r1, e1, ⟨q1, q2⟩, L1⟩ := zz_both h1 h2 k1 k2 p e ha hf hc s m args below hfr hap hP hK
  obtain ⟨⟨r, x, eo, hp, hb⟩, hfr2⟩ := q1
  obtain ⟨⟨r', x', eo', hp', _⟩, _⟩ := q2
  have er : r = r' := by
    have h := eo.symm.trans eo'
    injection h with h
    injection h with h
    injection h
  exact ⟨n, o, w1, r1, e1, ⟨⟨r, x, eo, ⟨hp, by rw [er]; exact hR r' x' hp'⟩, hb⟩, hfr2⟩, L1⟩
