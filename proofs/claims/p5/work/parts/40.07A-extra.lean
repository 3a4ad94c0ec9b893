def NKm (st : Nat → Nat → Int32) : Prop := NKf (st 16) 0
theorem NKm.mg {S : List Nat} {s0 s1 : Nat → Nat → Int32} (h : MG S s0 s1) (hS : 8 ∈ S) (hn : NKm s0) : NKm s1 := NKf.eq hn (fun j _ => h.2 16 (0 + j) (show (8 : Nat) ∈ S from hS))
theorem NKf.put {f f' : Nat → Int32} {n : Nat} (h : NKf f 0) (o : ∀ j, ¬ (4 * n ≤ j ∧ j < 4 * n + 4) → f' j = f j) (c1 : f' (4 * n) = 1 → ∃ m, m < n ∧ f' (4 * n + 1) = nI m) (c2 : f' (4 * n) = 2 ∨ f' (4 * n) = 3 → (∃ m, m < n ∧ f' (4 * n + 1) = nI m) ∧ ∃ m, m < n ∧ f' (4 * n + 2) = nI m) (c3 : f' (4 * n) = 68 → ∃ m, m < 8 ∧ f' (4 * n + 1) = nI m) : NKf f' 0 := by
  intro k hk
  by_cases e : k = n
  · subst e
    unfold nodeOK
    rw [Nat.zero_add]
    exact ⟨c1, c2, c3⟩
  · exact (h k hk).eq (fun j hj => o _ (by omega))
theorem nI_nec {a b : Nat} (ha : a < 2 ^ 31) (hb : b < 2 ^ 31) (h : ¬ a = b) : ¬ nI a = nI b := fun e => h ((nI_eq ha hb).mp e)
/-- the two images' sentences -/
def NKk (st : Nat → Nat → Int32) : Prop := NKf (st 4) 133 ∧ NKf (st 4) 506
theorem mr4 (s k : Nat) (h : k < 373) : mr 4 (373 * s + k) = mr 2 k := by
  show mrn ((373 * s + k) % 373) = mrn k
  rw [Nat.mul_add_mod, Nat.mod_eq_of_lt h]
theorem NKk.put {f4 f4' f2 : Nat → Int32} {n : Nat} (hn : n < 2) (h1 : ∀ j, j < 373 → f4' (373 * n + j) = f2 j) (h2 : ∀ j, ¬ (373 * n ≤ j ∧ j < 373 * n + 373) → f4' j = f4 j) (hN : NKf f2 133) (hK : NKf f4 133 ∧ NKf f4 506) : NKf f4' 133 ∧ NKf f4' 506 := by
  rcases (show n = 0 ∨ n = 1 by omega) with e | e
  · subst e
    refine ⟨NKf.eq hN (fun j hj => ?_), NKf.eq hK.2 (fun j hj => h2 _ (by omega))⟩
    have := h1 (133 + j) (by omega)
    rwa [show 373 * 0 + (133 + j) = 133 + j by omega] at this
  · subst e
    refine ⟨NKf.eq hK.1 (fun j hj => h2 _ (by omega)), NKf.eq hN (fun j hj => ?_)⟩
    have := h1 (133 + j) (by omega)
    rwa [show 373 * 1 + (133 + j) = 506 + j by omega] at this
theorem pcl4a {j : Nat} (h : j < 240) : pcl 4 (133 + j) = 7 := by
  show (if 133 ≤ (133 + j) % 373 then 7 else _) = 7
  rw [Nat.mod_eq_of_lt (by omega), if_pos (by omega)]
theorem pcl4b {j : Nat} (h : j < 240) : pcl 4 (506 + j) = 7 := by
  show (if 133 ≤ (506 + j) % 373 then 7 else _) = 7
  rw [show 506 + j = (133 + j) + 373 by omega, Nat.add_mod_right, Nat.mod_eq_of_lt (by omega), if_pos (by omega)]
theorem NKk.mg {S : List Nat} {s0 s1 : Nat → Nat → Int32} (h : MG S s0 s1) (hS : 7 ∈ S) (hk : NKk s0) : NKk s1 :=
  ⟨NKf.eq hk.1 (fun j hj => h.2 4 (133 + j) (by rw [pcl4a hj]; exact hS)), NKf.eq hk.2 (fun j hj => h.2 4 (506 + j) (by rw [pcl4b hj]; exact hS))⟩
theorem NKk.get {f4 f2 : Nat → Int32} {n : Nat} (hn : n < 2) (h1 : ∀ j, j < 240 → f2 (133 + j) = f4 (373 * n + (133 + j))) (hK : NKf f4 133 ∧ NKf f4 506) : NKf f2 133 := by
  rcases (show n = 0 ∨ n = 1 by omega) with e | e
  · subst e
    exact NKf.eq hK.1 (fun j hj => by rw [h1 j hj, show 373 * 0 + (133 + j) = 133 + j by omega])
  · subst e
    exact NKf.eq hK.2 (fun j hj => by rw [h1 j hj, show 373 * 1 + (133 + j) = 506 + j by omega])
theorem noidx {x : Int32} (h : ¬ (0 ≤ x ∧ x ≤ 1)) : ¬ ∃ n, n < 2 ∧ x = nI n := fun ⟨n, hn, e⟩ => h (by rw [e]; exact ⟨nI_pos' (by omega), (nI_leI (a := n) (b := 1) (by omega) (by omega)).mpr (by omega)⟩)
