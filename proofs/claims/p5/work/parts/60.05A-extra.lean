theorem BK1.of {ad : Nat → Nat} {st : Nat → Nat → Int32} {so : Nat → XR} {i j : Nat} (h5 : so 5 i = some (ad j)) (hinj : ∀ k, k < 26 → (some (ad j) : Option Nat) = some (ad k) → j = k) (h9 : j = 9 ∨ j = 10 → ∃ m, m < 6 ∧ st 6 i = nI m) (h11 : j = 11 → ∃ m, m < 8 ∧ st 6 i = nI m) : BK1 ad st so i := by
  unfold BK1; rw [h5]
  exact ⟨fun h => h9 (h.elim (fun q => Or.inl (hinj 9 (by omega) q)) (fun q => Or.inr (hinj 10 (by omega) q))), fun h => h11 (hinj 11 (by omega) h)⟩
theorem BKs.eqf {ad : Nat → Nat} {st s1 : Nat → Nat → Int32} {so o1 : Nat → XR} {n : Nat} (h : BKs ad st so n) (e1 : ∀ jj, jj < n → s1 6 jj = st 6 jj) (e2 : ∀ jj, jj < n → o1 5 jj = so 5 jj) : BKs ad s1 o1 n := fun i hi => (h i hi).eq (e1 i hi) (e2 i hi)
theorem BKs.snoc {ad : Nat → Nat} {st s1 : Nat → Nat → Int32} {so o1 : Nat → XR} {n : Nat} (h : BKs ad st so n) (e1 : ∀ jj, jj < n → s1 6 jj = st 6 jj) (e2 : ∀ jj, jj < n → o1 5 jj = so 5 jj) (h1 : BK1 ad s1 o1 n) : BKs ad s1 o1 (n + 1) := by
  intro i hi
  by_cases e : i < n
  · exact (h i e).eq (e1 i e) (e2 i e)
  · obtain rfl : i = n := by omega
    exact h1
