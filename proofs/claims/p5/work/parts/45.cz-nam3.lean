/-! the park that was read, as the reference counts and names it -/
theorem dm_79 (n k : Nat) : dm n 7 k = false ∧ dm n 9 k = false := by
  unfold dm; simp
theorem FM.lk {n : Nat} {st st' : Nat → Nat → Int32} {sl sl' : Nat → Nat → Int64} (h : FM n st sl st' sl') : LQ [7, 9] sl sl' := fun r hr k => by
  rcases List.mem_cons.mp hr with e | e
  · subst e; exact (h 7 k (dm_79 n k).1).2
  · rcases List.mem_cons.mp e with e | e
    · subst e; exact (h 9 k (dm_79 n k).2).2
    · cases e
theorem bs_lt {c : Nat → Nat} {a i : Nat} (ha : a < 3) (hi : i < c a) (h : c 0 ≤ 5 ∧ c 1 ≤ 8 ∧ c 2 ≤ 6) : bs a + i < 19 := by
  rcases (show a = 0 ∨ a = 1 ∨ a = 2 by omega) with rfl | rfl | rfl
  · show 0 + i < 19; omega
  · show 5 + i < 19; omega
  · show 13 + i < 19; omega
/-! the reference's names as they are now -/
def RN (c : Nat → Nat) (nm : Nat → Nat → Nat) (st : Nat → Nat → Int32) (sl : Nat → Nat → Int64) : Prop :=
  (∀ a, a < 3 → st 2 a = nI (c a)) ∧ (c 0 ≤ 5 ∧ c 1 ≤ 8 ∧ c 2 ≤ 6) ∧ ∀ a, a < 3 → ∀ i, i < c a → sl 7 (bs a + i) = lN (c7 7 (nm a i)) ∧ V5 (nm a i)
theorem RN.up {c : Nat → Nat} {nm : Nat → Nat → Nat} {st : Nat → Nat → Int32} {sl : Nat → Nat → Int64} (h : RN c nm st sl) {r k : Nat} {v : Int32} (hk : ¬ (r = 2 ∧ k < 3)) : RN c nm (up2 st r k v) sl :=
  ⟨fun a ha => (up2_ne st v (by omega)).trans (h.1 a ha), h.2.1, h.2.2⟩
theorem RN.upl {c : Nat → Nat} {nm : Nat → Nat → Nat} {st : Nat → Nat → Int32} {sl : Nat → Nat → Int64} (h : RN c nm st sl) {r k : Nat} {v : Int64} (hk : ¬ r = 7) : RN c nm st (upL sl r k v) :=
  ⟨h.1, h.2.1, fun a ha i hi => ⟨(upL_ne sl v (by omega)).trans (h.2.2 a ha i hi).1, (h.2.2 a ha i hi).2⟩⟩
theorem dm_27 (n j : Nat) : dm n 2 j = false ∧ dm n 7 j = false := by
  unfold dm; simp
theorem RN.fr {c : Nat → Nat} {nm : Nat → Nat → Nat} {n : Nat} {st st' : Nat → Nat → Int32} {sl sl' : Nat → Nat → Int64} (h : RN c nm st sl) (hF : FM n st sl st' sl') : RN c nm st' sl' :=
  ⟨fun a ha => ((hF 2 a (dm_27 n a).1).1).trans (h.1 a ha), h.2.1, fun a ha i hi => ⟨((hF 7 _ (dm_27 n _).2).2).trans (h.2.2 a ha i hi).1, (h.2.2 a ha i hi).2⟩⟩
theorem RN.kn {c : Nat → Nat} {nm : Nat → Nat → Nat} {st : Nat → Nat → Int32} {sl : Nat → Nat → Int64} (h : RN c nm st sl) {a i x : Nat} (ha : a < 3) (hi : i < c a) (hx : V5 x) (e : sl 7 (bs a + i) = lN (c7 7 x)) : nm a i = x := by
  obtain ⟨e1, e2⟩ := h.2.2 a ha i hi
  rw [e1] at e
  exact V5.inj e2 hx ((pk_lEQ (by have := e2.lt.2; omega) (by have := hx.lt.2; omega)).mp e)
theorem RN.nk {c : Nat → Nat} {nm : Nat → Nat → Nat} {st : Nat → Nat → Int32} {sl : Nat → Nat → Int64} (h : RN c nm st sl) {a x : Nat} (ha : a < 3) (e : ∀ i, i < c a → ¬ sl 7 (bs a + i) = lN (c7 7 x)) : ∀ i, i < c a → ¬ nm a i = x := fun i hi z => e i hi (by rw [(h.2.2 a ha i hi).1, z])
theorem dm_nd (j : Nat) : dm 5 16 j = true ∧ dm 6 16 j = true := by
  unfold dm; simp
theorem dm_ln (j : Nat) : dm 7 14 j = true := by
  unfold dm; simp
def RKN (r : PR) (st : Nat → Nat → Int32) (sl : Nat → Nat → Int64) (st' : Nat → Nat → Int32) (sl' : Nat → Nat → Int64) : Prop := (r.1 = 0 → RN r.2.2.1 r.2.2.2 st' sl') ∧ (¬ r.1 = 0 → (∀ a, a < 3 → st' 2 a = st 2 a) ∧ ∀ k, sl' 7 k = sl 7 k) ∧ ∀ k, sl' 9 k = sl 9 k
theorem MG.c2 {M : List Nat} {st2 Y : Nat → Nat → Int32} (hM : MG M st2 Y) (h : 21 ∈ M) {a : Nat} (ha : a < 3) : Y 2 a = st2 2 a := hM.2 2 a (by rw [pcl2c ha]; exact h)
theorem RN.eq {c : Nat → Nat} {nm : Nat → Nat → Nat} {st2 Y : Nat → Nat → Int32} {sl2 y : Nat → Nat → Int64} (h : RN c nm st2 sl2) (h1 : ∀ a, a < 3 → Y 2 a = st2 2 a) (h2 : ∀ j, y 7 j = sl2 7 j) : RN c nm Y y := ⟨fun a ha => (h1 a ha).trans (h.1 a ha), h.2.1, fun a ha i hi => ⟨(h2 _).trans (h.2.2 a ha i hi).1, (h.2.2 a ha i hi).2⟩⟩
