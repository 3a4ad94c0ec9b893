/-- a line of a book that was read -/
def lineOK (f : Nat → Int32) (a : Nat) : Prop :=
  (f a = 0 ∧ (∃ x, x < 5 ∧ f (a + 1) = nI x) ∧ ∃ u v, u ≤ v ∧ v < 24 ∧ f (a + 3) = nI u ∧ f (a + 4) = nI v) ∨ (f a = 1 ∧ ∃ x, x < 5 ∧ f (a + 1) = nI x) ∨ (f a = 2 ∧ ∃ x, x < 13 ∧ f (a + 1) = nI x) ∨ f a = 3 ∨ (f a = 4 ∧ (∃ x, x < 8 ∧ f (a + 1) = nI x) ∧ ∃ y, y < 5 ∧ f (a + 2) = nI y) ∨ f a = 5 ∨ f a = 6
theorem lineOK.eq {f g : Nat → Int32} {a : Nat} (h : lineOK f a) (e : ∀ j, j < a + 5 → g j = f j) : lineOK g a := by
  unfold lineOK at h ⊢
  rw [e a (by omega), e (a + 1) (by omega), e (a + 2) (by omega), e (a + 3) (by omega), e (a + 4) (by omega)]
  exact h
def LI (st : Nat → Nat → Int32) (n : Nat) : Prop := ∀ k, k < n → lineOK (st 14) (5 * k)
theorem LI.more {s0 s1 : Nat → Nat → Int32} {n : Nat} (h : LI s0 n) (e : ∀ j, j < 5 * n → s1 14 j = s0 14 j) (hn : lineOK (s1 14) (5 * n)) : LI s1 (n + 1) := by
  intro k hk
  rcases Nat.lt_or_ge k n with h1 | h1
  · exact (h k h1).eq (fun j hj => e j (by omega))
  · rw [show k = n by omega]; exact hn
theorem LI.mg {S : List Nat} {s0 s1 : Nat → Nat → Int32} {n : Nat} (h : MG S s0 s1) (hS : 13 ∈ S) (hl : LI s0 n) : LI s1 n := fun k hk => (hl k hk).eq (fun j _ => h.2 14 j (show (13 : Nat) ∈ S from hS))
theorem LI.zero (s : Nat → Nat → Int32) : LI s 0 := fun k hk => absurd hk (by omega)
