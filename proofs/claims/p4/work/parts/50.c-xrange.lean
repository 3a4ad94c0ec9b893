def xrg (r k : Nat) : Nat := if r < 20 then (if r = 1 then (if k = 1 ∨ k = 2 ∨ k = 3 ∨ k = 5 then 941 else 0) else if r = 11 then (if k = 1 then 9 else 0) else if r = 4 then (if k = 5 then 41 else 0) else if r = 7 then 5 else 0) else if r < 36 then (if (r - 20) % 4 = 0 then (if k = 3 then 41 else 0) else 0) else (if (r - 36) % 20 = 0 then (if k = 5 then 6 else if k = 6 then 9 else if k = 7 then 7 else 0) else if (r - 36) % 20 < 6 then 0 else if (r - 36) % 20 < 14 then (if k = 1 then 5 else 0) else if k = 1 then 8 else if k = 4 then 2 else 0)
def xcl (r k : Nat) : Nat := if r < 20 then (if r = 1 then (if k = 1 then 1 else if k = 13 then 10 else if k = 9 then 11 else 0) else if r = 0 then (if k = 16 then 12 else 0) else if r = 18 then 13 else if r = 19 then 13 else if r = 2 then 14 else if r = 15 then 2 else if r = 6 then 3 else if r = 4 then (if k = 5 then 6 else 0) else 0) else if r < 36 then (if (r - 20) % 4 = 3 then (if (r - 20) / 4 = 1 then 8 else 4) else if (r - 20) % 4 = 0 then (if k = 3 then (if (r - 20) / 4 = 1 then 9 else 5) else 0) else 0) else if (r - 36) % 20 = 0 then (if k = 5 ∨ k = 6 ∨ k = 7 then 7 else 0) else 0
def XI (st : Nat → Nat → Int32) : Prop := ∀ r k, 0 < xrg r k → ∃ n, n < xrg r k ∧ st r k = nI n
def XG (S : List Nat) (s0 st : Nat → Nat → Int32) : Prop := XI st ∧ ∀ r k, xcl r k ∈ S → st r k = s0 r k
theorem XG.rf {S : List Nat} {st : Nat → Nat → Int32} (h : XI st) : XG S st st := ⟨h, fun _ _ _ => rfl⟩
theorem XI.up {st : Nat → Nat → Int32} (h : XI st) {r k : Nat} {v : Int32} (hv : 0 < xrg r k → ∃ n, n < xrg r k ∧ v = nI n) : XI (up2 st r k v) := by
  intro a j hj
  by_cases e : a = r ∧ j = k
  · obtain ⟨rfl, rfl⟩ := e
    rw [up2_same]; exact hv hj
  · rw [up2_ne st v e]; exact h a j hj
theorem XG.up {S : List Nat} {s0 st : Nat → Nat → Int32} (h : XG S s0 st) {r k : Nat} {v : Int32} (hv : 0 < xrg r k → ∃ n, n < xrg r k ∧ v = nI n) (hp : xcl r k ∉ S) : XG S s0 (up2 st r k v) := by
  refine ⟨h.1.up hv, fun a j hj => ?_⟩
  rw [up2_ne st v (fun e => hp (by obtain ⟨rfl, rfl⟩ := e; exact hj))]; exact h.2 a j hj
theorem XG.tr {S S1 : List Nat} {s0 st s1 : Nat → Nat → Int32} (h : XG S s0 st) (h1 : XG S1 st s1) (hs : ∀ c ∈ S, c ∈ S1) : XG S s0 s1 := ⟨h1.1, fun a j hj => (h1.2 a j (hs _ hj)).trans (h.2 a j hj)⟩
theorem XI.at {st : Nat → Nat → Int32} (h : XI st) {r k b : Nat} (hb : xrg r k = b) (h0 : 0 < b) : ∃ n, n < b ∧ st r k = nI n := by subst hb; exact h r k h0
theorem xz {r k : Nat} {v : Int32} (h : xrg r k = 0) : 0 < xrg r k → ∃ n, n < xrg r k ∧ v = nI n := fun q => absurd h (by omega)
theorem xn {r k b n : Nat} (h : xrg r k = b) (hn : n < b) : 0 < xrg r k → ∃ m, m < xrg r k ∧ nI n = nI m := fun _ => ⟨n, by omega, rfl⟩
theorem xc {st : Nat → Nat → Int32} (hI : XI st) {r k r' k' : Nat} (h : xrg r k = xrg r' k') : 0 < xrg r k → ∃ m, m < xrg r k ∧ st r' k' = nI m := fun q => by rw [h] at q ⊢; exact hI r' k' q
theorem xpn {r k c : Nat} {S : List Nat} (h : xcl r k = c) (hc : c ∉ S) : xcl r k ∉ S := by rw [h]; exact hc
theorem xrg_pk {i o k : Nat} (ho : o < 20) : xrg (36 + 20 * i + o) k = if o = 0 then (if k = 5 then 6 else if k = 6 then 9 else if k = 7 then 7 else 0) else if o < 6 then 0 else if o < 14 then (if k = 1 then 5 else 0) else if k = 1 then 8 else if k = 4 then 2 else 0 := by
  unfold xrg; rw [if_neg (by omega), if_neg (by omega), show (36 + 20 * i + o - 36) % 20 = o by omega]
theorem xrg_pe {i p k : Nat} (hp : p < 8) : xrg (36 + 20 * i + (6 + p)) k = if k = 1 then 5 else 0 := by
  rw [xrg_pk (by omega), if_neg (by omega), if_neg (by omega), if_pos (by omega)]
theorem xrg_do {i p k : Nat} (hp : p < 6) : xrg (36 + 20 * i + (14 + p)) k = if k = 1 then 8 else if k = 4 then 2 else 0 := by
  rw [xrg_pk (by omega), if_neg (by omega), if_neg (by omega), if_neg (by omega)]
theorem xcl_pk {i o k : Nat} (ho : o < 20) : xcl (36 + 20 * i + o) k = if o = 0 then (if k = 5 ∨ k = 6 ∨ k = 7 then 7 else 0) else 0 := by
  unfold xcl; rw [if_neg (by omega), if_neg (by omega), show (36 + 20 * i + o - 36) % 20 = o by omega]
theorem xcl_pe {i p k : Nat} (hp : p < 8) : xcl (36 + 20 * i + (6 + p)) k = 0 := by rw [xcl_pk (by omega), if_neg (by omega)]
theorem xcl_do {i p k : Nat} (hp : p < 6) : xcl (36 + 20 * i + (14 + p)) k = 0 := by rw [xcl_pk (by omega), if_neg (by omega)]
theorem zz_nb {n : Nat} (h : n < 2) : narrow .boolean (.int (nI n)) = .int (nI n) := by
  rcases (show n = 0 ∨ n = 1 by omega) with e | e
  · subst e; decide
  · subst e; decide
theorem zz_fb {n : Nat} (h : n < 2) : fits .boolean (.int (nI n)) = true := by
  rcases (show n = 0 ∨ n = 1 by omega) with e | e
  · subst e; decide
  · subst e; decide
theorem zz_nz {z : Int32} (h : z = 0 ∨ z = 1) : narrow .boolean (.int z) = .int z := by
  rcases h with e | e
  · subst e; decide
  · subst e; decide
theorem nI_remN {a b : Nat} (ha : a < 2 ^ 31) (hb : 0 < b ∧ b < 2 ^ 31) : nI a - nI a / nI b * nI b = nI (a % b) := by
  have h1 : a / b * b ≤ a := Nat.div_mul_le_self a b
  rw [nI_divN ha hb, nI_mul, nI_subN h1 ha]
  congr 1
  have := Nat.div_add_mod a b
  rw [Nat.mul_comm] at this
  omega
theorem xrg_sn {q o k : Nat} (hq : q < 4) (ho : o < 4) : xrg (20 + 4 * q + o) k = if o = 0 then (if k = 3 then 41 else 0) else 0 := by
  unfold xrg; rw [if_neg (by omega), if_pos (by omega), show (20 + 4 * q + o - 20) % 4 = o by omega]
theorem xcl_sn {q o k : Nat} (hq : q < 4) (ho : o < 4) : xcl (20 + 4 * q + o) k = if o = 3 then (if q = 1 then 8 else 4) else if o = 0 then (if k = 3 then (if q = 1 then 9 else 5) else 0) else 0 := by
  unfold xcl; rw [if_neg (by omega), if_pos (by omega), show (20 + 4 * q + o - 20) % 4 = o by omega, show (20 + 4 * q + o - 20) / 4 = q by omega]
