section CNk
variable {c : Nat → Nat} {nm : Nat → Nat → Nat} {st st' : Nat → Nat → Int32} {sl sl' : Nat → Nat → Int64} {q i x r k : Nat}
theorem CN.c0 (h : CN c nm st sl q) : st (36 + 20 * q) 5 = nI (c 0) := h.1 0 (by omega)
theorem CN.c1 (h : CN c nm st sl q) : st (36 + 20 * q) 6 = nI (c 1) := h.1 1 (by omega)
theorem CN.c2 (h : CN c nm st sl q) : st (36 + 20 * q) 7 = nI (c 2) := h.1 2 (by omega)
theorem CN.kn0 (h : CN c nm st sl q) (hi : i < c 0) (hx : V5 x) (e : sl (36 + 20 * q + 1) i = lN x) : nm 0 i = x := lN_V (h.2.2.1 i hi).2 hx ((h.2.2.1 i hi).1.symm.trans e)
theorem CN.kn1 (h : CN c nm st sl q) (hi : i < c 1) (hx : V5 x) (e : sl (36 + 20 * q + (6 + i)) 0 = lN x) : nm 1 i = x := lN_V (h.2.2.2.1 i hi).2 hx ((h.2.2.2.1 i hi).1.symm.trans e)
theorem CN.kn2 (h : CN c nm st sl q) (hi : i < c 2) (hx : V5 x) (e : sl (36 + 20 * q + (14 + i)) 0 = lN x) : nm 2 i = x := lN_V (h.2.2.2.2 i hi).2 hx ((h.2.2.2.2 i hi).1.symm.trans e)
theorem CN.nk0 (h : CN c nm st sl q) (e : ∀ i, i < c 0 → ¬ sl (36 + 20 * q + 1) i = lN x) : ∀ i, i < c 0 → ¬ nm 0 i = x := fun i hi z => e i hi (by rw [(h.2.2.1 i hi).1, z])
theorem CN.nk1 (h : CN c nm st sl q) (e : ∀ i, i < c 1 → ¬ sl (36 + 20 * q + (6 + i)) 0 = lN x) : ∀ i, i < c 1 → ¬ nm 1 i = x := fun i hi z => e i hi (by rw [(h.2.2.2.1 i hi).1, z])
theorem CN.nk2 (h : CN c nm st sl q) (e : ∀ i, i < c 2 → ¬ sl (36 + 20 * q + (14 + i)) 0 = lN x) : ∀ i, i < c 2 → ¬ nm 2 i = x := fun i hi z => e i hi (by rw [(h.2.2.2.2 i hi).1, z])
theorem CN.up {v : Int32} (h : CN c nm st sl q) (hr : r < 36) : CN c nm (up2 st r k v) sl q := ⟨fun a ha => (up2_ne st v (by omega)).trans (h.1 a ha), h.2⟩
theorem CN.upL {v : Int64} (h : CN c nm st sl q) (hr : r < 36) : CN c nm st (upL sl r k v) q := ⟨h.1, h.2.1, fun i hi => ⟨(upL_ne sl v (by omega)).trans (h.2.2.1 i hi).1, (h.2.2.1 i hi).2⟩, fun i hi => ⟨(upL_ne sl v (by omega)).trans (h.2.2.2.1 i hi).1, (h.2.2.2.1 i hi).2⟩, fun i hi => ⟨(upL_ne sl v (by omega)).trans (h.2.2.2.2 i hi).1, (h.2.2.2.2 i hi).2⟩⟩
theorem CN.fr {n : Nat} {so so' : Nat → XR} (h : CN c nm st sl q) (hF : FX n st sl so st' sl' so') (hd : ∀ r k, 36 + 20 * q ≤ r → r < 36 + 20 * q + 20 → dc n r k = false) : CN c nm st' sl' q := by
  obtain ⟨h1, h2, h3, h4, h5⟩ := h
  exact ⟨fun a ha => ((hF _ _ (hd _ _ (by omega) (by omega))).1).trans (h1 a ha), h2, fun i hi => ⟨((hF _ _ (hd _ _ (by omega) (by omega))).2.1).trans (h3 i hi).1, (h3 i hi).2⟩, fun i hi => ⟨((hF _ _ (hd _ _ (by omega) (by omega))).2.1).trans (h4 i hi).1, (h4 i hi).2⟩, fun i hi => ⟨((hF _ _ (hd _ _ (by omega) (by omega))).2.1).trans (h5 i hi).1, (h5 i hi).2⟩⟩
end CNk
/-! hidden from omega: it runs away over 'if so, there is' -/
def zz_im (P Q : Prop) : Prop := P → Q
theorem TC.upO {B : Nat → Nat} {g m p : Nat} {ad : Nat → Nat} {st : Nat → Nat → Int32} {sl : Nat → Nat → Int64} {so : Nat → XR} (h : TC B g m p ad st sl so) {r k : Nat} {v : Option Nat} (hd : ¬ (r = 1 ∧ k = 7)) : TC B g m p ad st sl (upO so r k v) := by
  obtain ⟨a1, a2, a3, a4, a5, a6, a7⟩ := h
  exact ⟨a1, a2, a3, a4, a5, (upO_ne so v (by omega)).trans a6, a7⟩
theorem dc_q0 {n r k : Nat} (h1 : 36 ≤ r) (h2 : r < 56) : dc n r k = false := by
  have e1 : (r == 1) = false := beq_eq_false_iff_ne.mpr (by omega)
  have e3 : (r == 3) = false := beq_eq_false_iff_ne.mpr (by omega)
  have e5 : (decide (56 ≤ r) && decide (r < 76)) = false := by
    simp only [Bool.and_eq_false_iff, decide_eq_false_iff_not]; omega
  have e6 : (decide (24 ≤ r) && decide (r < 28)) = false := by
    simp only [Bool.and_eq_false_iff, decide_eq_false_iff_not]; omega
  have e7 : (decide (4 ≤ r) && decide (r < 10)) = false := by
    simp only [Bool.and_eq_false_iff, decide_eq_false_iff_not]; omega
  unfold dc
  rw [e1, e3, e5, e6, e7]; simp
theorem CN.fr0 {c : Nat → Nat} {nm : Nat → Nat → Nat} {n : Nat} {st st' : Nat → Nat → Int32} {sl sl' : Nat → Nat → Int64} {so so' : Nat → XR} (h : CN c nm st sl 0) (hF : FX n st sl so st' sl' so') : CN c nm st' sl' 0 := h.fr hF (fun r k h1 h2 => dc_q0 (by omega) (by omega))
theorem dc_sn {o k : Nat} (h : o < 4) : dc 5 (20 + 4 * 1 + o) k = true := by
  unfold dc; rw [show (decide (24 ≤ 20 + 4 * 1 + o) && decide (20 + 4 * 1 + o < 28)) = true from by simp only [Bool.and_eq_true, decide_eq_true_eq]; omega]; simp
theorem CN.eq {c : Nat → Nat} {nm : Nat → Nat → Nat} {st st' : Nat → Nat → Int32} {sl sl' : Nat → Nat → Int64} (h : CN c nm st sl 0) (hh : ∀ r k, 36 ≤ r → st' r k = st r k ∧ sl' r k = sl r k) : CN c nm st' sl' 0 := by
  obtain ⟨h1, h2, h3, h4, h5⟩ := h
  exact ⟨fun a ha => ((hh _ _ (by omega)).1).trans (h1 a ha), h2, fun i hi => ⟨((hh _ _ (by omega)).2).trans (h3 i hi).1, (h3 i hi).2⟩, fun i hi => ⟨((hh _ _ (by omega)).2).trans (h4 i hi).1, (h4 i hi).2⟩, fun i hi => ⟨((hh _ _ (by omega)).2).trans (h5 i hi).1, (h5 i hi).2⟩⟩
theorem FX.hi {n : Nat} {st st' : Nat → Nat → Int32} {sl sl' : Nat → Nat → Int64} {so so' : Nat → XR} (h : FX n st sl so st' sl' so') (hn : n < 4) : ∀ r k, 36 ≤ r → st' r k = st r k ∧ sl' r k = sl r k := fun r k hr => ⟨(h r k (dc_out hn (by omega))).1, (h r k (dc_out hn (by omega))).2.1⟩
theorem sA_or {B : Nat → Nat} {g m : Nat} {c : Nat → Nat} {nm : Nat → Nat → Nat} {f a : Nat} (hf : 1 ≤ f) (h : sCond B g m (sOne B g m c nm 8) 0 0 = sf f a ∨ ∃ q u, sCond B g m (sOne B g m c nm 8) 0 0 = (0, q, u) ∧ ¬ tkd B g m q = 0 ∧ f = 1 ∧ a = tka B g m q) : sAll B g m c nm = sf f a := by
  rcases h with h | ⟨q, u, h1, h2, rfl, rfl⟩
  · exact sA_f h hf
  · exact sA_n h1 h2
