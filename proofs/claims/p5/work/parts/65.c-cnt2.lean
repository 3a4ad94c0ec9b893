/-! the park that was read, as the class counts and names it -/
def CN (c : Nat → Nat) (nm : Nat → Nat → Nat) (st : Nat → Nat → Int32) (sl : Nat → Nat → Int64) (q : Nat) : Prop :=
  (∀ a, a < 3 → st (36 + 20 * q) (5 + a) = nI (c a)) ∧ (c 0 ≤ 5 ∧ c 1 ≤ 8 ∧ c 2 ≤ 6) ∧ (∀ i, i < c 0 → sl (36 + 20 * q + 1) i = lN (nm 0 i) ∧ V5 (nm 0 i)) ∧ (∀ i, i < c 1 → sl (36 + 20 * q + (6 + i)) 0 = lN (nm 1 i) ∧ V5 (nm 1 i)) ∧ ∀ i, i < c 2 → sl (36 + 20 * q + (14 + i)) 0 = lN (nm 2 i) ∧ V5 (nm 2 i)
section CNs
variable {c : Nat → Nat} {nm : Nat → Nat → Nat} {st st' : Nat → Nat → Int32} {sl sl' : Nat → Nat → Int64} {q q' : Nat}
theorem CN.cn (h : CN c nm st sl q) : cnq st q 0 = c 0 ∧ cnq st q 1 = c 1 ∧ cnq st q 2 = c 2 := by
  obtain ⟨h1, h2, _⟩ := h
  exact ⟨cnq_n (m := 0) (h1 0 (by omega)) (by omega), cnq_n (m := 1) (h1 1 (by omega)) (by omega), cnq_n (m := 2) (h1 2 (by omega)) (by omega)⟩
theorem CN.pe (h : CN c nm st sl q) (e : PE st sl q st' sl' q') : CN c nm st' sl' q' := by
  obtain ⟨k0, k1, k2⟩ := h.cn
  obtain ⟨h1, h2, h3, h4, h5⟩ := h
  exact ⟨fun a ha => (e.1 a ha).trans (h1 a ha), h2, fun i hi => ⟨(e.2.1 i (by omega)).trans (h3 i hi).1, (h3 i hi).2⟩, fun i hi => ⟨(e.2.2.1 i (by omega)).trans (h4 i hi).1, (h4 i hi).2⟩, fun i hi => ⟨(e.2.2.2 i (by omega)).trans (h5 i hi).1, (h5 i hi).2⟩⟩
theorem PT.cn (h : PT c nm st sl) : CN c nm st sl 1 := by
  obtain ⟨a0, a1, a2, a3, a4, a5, a6, a7, a8⟩ := h
  refine ⟨fun a ha => ?_, ⟨a5.1, a5.2.1, a5.2.2.1⟩, a6, a7, a8⟩
  rcases (show a = 0 ∨ a = 1 ∨ a = 2 by omega) with rfl | rfl | rfl
  · exact a0
  · exact a1
  · exact a2
end CNs
theorem dc4_in {q r k : Nat} (hq : ¬ q = 1) (h1 : 36 + 20 * q ≤ r) (h2 : r < 36 + 20 * q + 20) : dc 4 r k = false := by
  have e1 : (r == 1) = false := beq_eq_false_iff_ne.mpr (by omega)
  have e3 : (r == 3) = false := beq_eq_false_iff_ne.mpr (by omega)
  have e5 : (decide (56 ≤ r) && decide (r < 76)) = false := by
    simp only [Bool.and_eq_false_iff, decide_eq_false_iff_not]; omega
  have e6 : (decide (24 ≤ r) && decide (r < 28)) = false := by
    simp only [Bool.and_eq_false_iff, decide_eq_false_iff_not]; omega
  have e7 : (decide (4 ≤ r) && decide (r < 10)) = false := by
    simp only [Bool.and_eq_false_iff, decide_eq_false_iff_not]; omega
  unfold dc
  rw [e1, e3, e5, e6, e7]; simp
theorem FX.ni {st st' : Nat → Nat → Int32} {sl sl' : Nat → Nat → Int64} {so so' : Nat → XR} (hI : XI st') (h : FX 4 st sl so st' sl' so') : NI st sl st' sl' := NI.eq (h 11 1 (by decide)).1 (h 11 2 (by decide)).1 (fun q h13 hq => by
  have hc : ∀ a, a < 3 → st' (36 + 20 * q) (5 + a) = st (36 + 20 * q) (5 + a) := fun a _ => (h _ _ (dc4_in (q := q) hq (by omega) (by omega))).1
  have hb := cnq_le hI q h13
  have e1 : cnq st' q 1 = cnq st q 1 := by unfold cnq; rw [hc 1 (by omega)]
  have e2 : cnq st' q 2 = cnq st q 2 := by unfold cnq; rw [hc 2 (by omega)]
  rw [e1, e2] at hb
  exact ⟨hc, fun l _ => (h _ _ (dc4_in (q := q) hq (by omega) (by omega))).2.1, fun l hl => (h _ _ (dc4_in (q := q) hq (by omega) (by omega))).2.1, fun l hl => (h _ _ (dc4_in (q := q) hq (by omega) (by omega))).2.1⟩)
theorem FX.lg {n : Nat} {st st' : Nat → Nat → Int32} {sl sl' : Nat → Nat → Int64} {so so' : Nat → XR} (h : FX n st sl so st' sl' so') (hn : n < 4) : LGq sl sl' := fun r k hr => (h r k (dc_out hn (by omega))).2.1
def PKN (r : PR) (st : Nat → Nat → Int32) (sl : Nat → Nat → Int64) (st' : Nat → Nat → Int32) (sl' : Nat → Nat → Int64) : Prop := HC st sl → HC st' sl' ∧ (r.1 = 0 → CN r.2.2.1 r.2.2.2 st' sl' 0) ∧ (¬ r.1 = 0 → PE st sl 0 st' sl' 0) ∧ ∀ q, q = 11 ∨ q = 12 → PE st sl q st' sl' q
theorem PKN.bad {r : PR} {st st' : Nat → Nat → Int32} {sl sl' : Nat → Nat → Int64} (hn : NI st sl st' sl') (hr : ¬ r.1 = 0) : PKN r st sl st' sl' := fun z => ⟨(hn z).1, fun e => absurd e hr, fun _ => (hn z).2 0 (Or.inl rfl), fun q hq => (hn z).2 q (Or.inr hq)⟩
theorem PKN.good {r : PR} {st s3 s6 : Nat → Nat → Int32} {sl l3 l6 : Nat → Nat → Int64} (hn : NI st sl s3 l3) (hq : CQ 0 1 s3 l3 s6 l6) (hH : HC s6 l6) (hc : CN r.2.2.1 r.2.2.2 s3 l3 1) (hr : r.1 = 0) : PKN r st sl s6 l6 := fun z => ⟨hH, fun _ => hc.pe hq.1, fun e => absurd hr e, fun q h1 => ((hn z).2 q (Or.inr h1)).tr (hq.2 q (by omega) (by omega))⟩
