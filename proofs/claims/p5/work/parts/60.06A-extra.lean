theorem SKs.zero {ad : Nat → Nat} {st : Nat → Nat → Int32} {so : Nat → XR} {q : Nat} (h : st (20 + 4 * q) 3 = 0) : SKs ad st so q := by
  intro n i hn h1 h2 _
  rw [h] at hn
  have := (nI_eq (a := 0) (b := n) (by omega) (by omega)).mp (show nI 0 = nI n from hn)
  omega
theorem SKs.add {ad : Nat → Nat} {st s1 : Nat → Nat → Int32} {so o1 : Nat → XR} {q n : Nat} {w : Option Nat} {v : Int32} (h : SKs ad st so q) (hn : st (20 + 4 * q) 3 = nI n) (hn2 : n < 40) (e0 : s1 (20 + 4 * q) 3 = nI (n + 1)) (e1 : ∀ jj, jj < n → s1 (20 + 4 * q + 3) jj = st (20 + 4 * q + 3) jj) (e2 : ∀ jj, jj < n → o1 (20 + 4 * q + 1) jj = so (20 + 4 * q + 1) jj) (e3 : s1 (20 + 4 * q + 3) n = v) (e4 : o1 (20 + 4 * q + 1) n = w) (hv : w = some (ad 18) → ∃ m, m < 8 ∧ v = nI m) : SKs ad s1 o1 q := by
  intro k i hk h1 h2 h3
  have ek : n + 1 = k := (nI_eq (by omega) (by omega)).mp (e0.symm.trans hk)
  by_cases e : i < n
  · rw [e1 i e]; exact h n i hn (by omega) e (by rw [← e2 i e]; exact h3)
  · obtain rfl : i = n := by omega
    rw [e3]; exact hv (by rw [← e4]; exact h3)
theorem SKs.copy {ad : Nat → Nat} {st s1 : Nat → Nat → Int32} {so o1 : Nat → XR} {q p n : Nat} (e0 : s1 (20 + 4 * p) 3 = nI n) (e9 : st (20 + 4 * q) 3 = nI n) (e1 : ∀ jj, jj < n → s1 (20 + 4 * p + 3) jj = st (20 + 4 * q + 3) jj) (e2 : ∀ jj, jj < n → o1 (20 + 4 * p + 1) jj = so (20 + 4 * q + 1) jj) (hn : n < 41) (h : SKs ad st so q) : SKs ad s1 o1 p := by
  intro k i hk h1 h2 h3
  have ek : n = k := (nI_eq (by omega) (by omega)).mp (e0.symm.trans hk)
  subst ek
  rw [e1 i h2]
  exact h n i e9 h1 h2 (by rw [← e2 i h2]; exact h3)
theorem SKs.rows {ad : Nat → Nat} {st s1 : Nat → Nat → Int32} {so o1 : Nat → XR} {p q : Nat} (e1 : ∀ r, ¬ (20 + 4 * p ≤ r ∧ r < 20 + 4 * p + 4) → s1 r = st r) (e2 : ∀ r, ¬ (20 + 4 * p ≤ r ∧ r < 20 + 4 * p + 4) → o1 r = so r) (hn : ¬ q = p) (h : SKs ad st so q) : SKs ad s1 o1 q :=
  h.eq (by rw [e1 _ (by omega)]) (fun i => by rw [e1 _ (by omega)]) (fun i => by rw [e2 _ (by omega)])
