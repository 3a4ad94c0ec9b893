/-! the reference's world by roles -/
def up2 (st : Nat → Nat → Int32) (r k : Nat) (v : Int32) : Nat → Nat → Int32 := fun a => if a = r then upd (st a) k v else st a
def upL (sl : Nat → Nat → Int64) (r k : Nat) (v : Int64) : Nat → Nat → Int64 := fun a => if a = r then vp_updL (sl a) k v else sl a
abbrev MT : Type := (Nat → Nat → Int32) × (Nat → Nat → Int64)
def mw (ar : Nat → Nat) (cy : Nat → ClassId) (st : Nat → Nat → Int32) (sl : Nat → Nat → Int64) : va_W := [(ar 0, .inr (11, [.int (st 0 0), .ref (ar 1), .int (st 0 2), .int (st 0 3), .int (st 0 4), .int (st 0 5), .int (st 0 6), .int (st 0 7), .int (st 0 8), .int (st 0 9), .int (st 0 10), .int (st 0 11), .long (sl 0 12), .int (st 0 13), .ref (ar 2), .ref (ar 3), .ref (ar 4), .ref (ar 5), .ref (ar 6), .ref (ar 7), .ref (ar 8), .ref (ar 9), .ref (ar 10), .int (st 0 23), .int (st 0 24), .int (st 0 25), .int (st 0 26), .int (st 0 27), .int (st 0 28), .long (sl 0 29), .long (sl 0 30), .ref (ar 11), .ref (ar 12), .int (st 0 33), .int (st 0 34), .int (st 0 35), .ref (ar 13), .int (st 0 37), .ref (ar 14), .ref (ar 15), .int (st 0 40), .int (st 0 41), .ref (ar 16), .int (st 0 43), .int (st 0 44), .int (st 0 45), .int (st 0 46)])), (ar 1, .inl (cy 1, 940, .inl (st 1))), (ar 2, .inl (cy 2, 373, .inl (st 2))), (ar 3, .inl (cy 3, 61, .inl (st 3))), (ar 4, .inl (cy 4, 746, .inl (st 4))), (ar 5, .inl (cy 5, 560, .inl (st 5))), (ar 6, .inl (cy 6, 70, .inl (st 6))), (ar 7, .inl (cy 7, 19, .inr (.inl (sl 7)))), (ar 8, .inl (cy 8, 19, .inr (.inl (sl 8)))), (ar 9, .inl (cy 9, 38, .inr (.inl (sl 9)))), (ar 10, .inl (cy 10, 2, .inl (st 10))), (ar 11, .inl (cy 11, 8, .inl (st 11))), (ar 12, .inl (cy 12, 8, .inl (st 12))), (ar 13, .inl (cy 13, 64, .inl (st 13))), (ar 14, .inl (cy 14, 200, .inl (st 14))), (ar 15, .inl (cy 15, 4, .inl (st 15))), (ar 16, .inl (cy 16, 240, .inl (st 16)))]
def mt (cy : Nat → ClassId) : List (ClassId × FieldType) := [(cy 1, .int), (cy 2, .int), (cy 3, .int), (cy 4, .int), (cy 5, .int), (cy 6, .int), (cy 7, .long), (cy 8, .long), (cy 9, .long), (cy 10, .boolean), (cy 11, .int), (cy 12, .int), (cy 13, .int), (cy 14, .int), (cy 15, .int), (cy 16, .int)]
def MN (ar : Nat → Nat) : Prop := ∀ i j, i < 17 → j < 17 → ar i = ar j → i = j
def MA (ar : Nat → Nat) (sz : Nat) : Nat → Prop := fun q => (∃ k, k < 17 ∧ q = ar k) ∨ sz ≤ q
theorem mw_fst (ar : Nat → Nat) (cy : Nat → ClassId) (st : Nat → Nat → Int32) (sl : Nat → Nat → Int64) : (mw ar cy st sl).map Prod.fst = (List.range 17).map ar := rfl
theorem mw_at {ar : Nat → Nat} {cy : Nat → ClassId} {st : Nat → Nat → Int32} {sl : Nat → Nat → Int64} {k : Nat} {q : Nat × va_E} (h : (mw ar cy st sl)[k]? = some q) : k < 17 ∧ q.1 = ar k := by
  have h1 : ((mw ar cy st sl).map Prod.fst)[k]? = some q.1 := by rw [List.getElem?_map, h]; rfl
  rw [mw_fst, List.getElem?_map] at h1
  by_cases hk : k < 17
  · rw [List.getElem?_range hk] at h1
    exact ⟨hk, (Option.some.inj h1).symm⟩
  · rw [List.getElem?_eq_none (by rw [List.length_range]; omega)] at h1
    cases h1
theorem mD {ar : Nat → Nat} (hN : MN ar) (cy : Nat → ClassId) (st : Nat → Nat → Int32) (sl : Nat → Nat → Int64) (sz : Nat) : va_D (MA ar sz) (mw ar cy st sl) := by
  refine ⟨fun i j p q hp hq hpq => ?_, fun k q hq => ?_⟩
  · have a := mw_at hp
    have b := mw_at hq
    exact hN i j a.1 b.1 (by rw [← a.2, ← b.2]; exact hpq)
  · have a := mw_at hq
    exact Or.inl ⟨k, a.1, a.2⟩
theorem MA.le {ar : Nat → Nat} {a b : Nat} (h : a ≤ b) : ∀ q, MA ar b q → MA ar a q := fun q hq => hq.elim Or.inl (fun x => Or.inr (Nat.le_trans h x))
def mPre (dC : Nat → ClassId) (dI : Nat → Nat → Nat) (ar : Nat → Nat) (cy : Nat → ClassId) (sz : Nat) (st : Nat → Nat → Int32) (sl : Nat → Nat → Int64) (U : State) : Prop := U.heap.size = sz ∧ va_P (dC, dI) vwCl (mw ar cy st sl) U.heap ∧ va_K (dC, dI) vwCl (mt cy) U
theorem mPre.blind {dC : Nat → ClassId} {dI : Nat → Nat → Nat} {ar : Nat → Nat} {cy : Nat → ClassId} {sz : Nat} {st : Nat → Nat → Int32} {sl : Nat → Nat → Int64} {U : State} {g : JFrame} {mk : MethodId} {a : Array Value} (q : mPre dC dI ar cy sz st sl U) : mPre dC dI ar cy sz st sl (U.calling g mk a) :=
  ⟨q.1, q.2.1, va_K.moved (u := U) (U := U.calling g mk a) (Vm.Alike.refl U.vm) q.2.2⟩
theorem mPre.of {dC : Nat → ClassId} {dI : Nat → Nat → Nat} {ar : Nat → Nat} {cy : Nat → ClassId} {st : Nat → Nat → Int32} {sl : Nat → Nat → Int64} {s U : State} {H : Heap} (hP : va_P (dC, dI) vwCl (mw ar cy st sl) H) (hK : va_K (dC, dI) vwCl (mt cy) s) (hU : U.heap = H) (hW : s.WarmedH U.vm) : mPre dC dI ar cy H.size st sl U :=
  ⟨by rw [hU], by rw [hU]; exact hP, va_K.moved hW.alike hK⟩
def mB (dC : Nat → ClassId) (dI : Nat → Nat → Nat) (ar : Nat → Nat) (cy : Nat → ClassId) (x : MT) (t : State) : Prop := va_P (dC, dI) vwCl (mw ar cy x.1 x.2) t.heap
theorem mB.at {dC : Nat → ClassId} {dI : Nat → Nat → Nat} {ar : Nat → Nat} {cy : Nat → ClassId} {x : MT} {t : State} {H : Heap} (ht : t.heap = H) (h : mB dC dI ar cy x t) : va_P (dC, dI) vwCl (mw ar cy x.1 x.2) H := by rw [← ht]; exact h
theorem mB.of {dC : Nat → ClassId} {dI : Nat → Nat → Nat} {ar : Nat → Nat} {cy : Nat → ClassId} {st : Nat → Nat → Int32} {sl : Nat → Nat → Int64} {t : State} {H : Heap} (ht : t.heap = H) (h : va_P (dC, dI) vwCl (mw ar cy st sl) H) : mB dC dI ar cy (st, sl) t := by unfold mB; rw [ht]; exact h
def mrn (k : Nat) : Nat := if 0 ≤ k ∧ k < 1 then 6 else if 1 ≤ k ∧ k < 2 then 9 else if 2 ≤ k ∧ k < 3 then 7 else if 4 ≤ k ∧ k < 9 then 2147483648 else if 10 ≤ k ∧ k < 18 then 5 else if 42 ≤ k ∧ k < 48 then 8 else if 48 ≤ k ∧ k < 54 then 13 else if 60 ≤ k ∧ k < 61 then 13 else if 62 ≤ k ∧ k < 63 then 13 else if 66 ≤ k ∧ k < 71 then 2147483648 else if 71 ≤ k ∧ k < 79 then 5 else if 132 ≤ k ∧ k < 133 then 60 else 0
def mr (r k : Nat) : Nat := match r with
  | 0 => if 2 ≤ k ∧ k < 4 then 941 else if 5 ≤ k ∧ k < 6 then 941 else if 23 ≤ k ∧ k < 24 then 9 else if 33 ≤ k ∧ k < 34 then 9 else if 37 ≤ k ∧ k < 38 then 65 else if 40 ≤ k ∧ k < 41 then 41 else if 43 ≤ k ∧ k < 44 then 61 else if 44 ≤ k ∧ k < 45 then 21 else if 45 ≤ k ∧ k < 46 then 9 else if 46 ≤ k ∧ k < 47 then 60 else 0
  | 2 => mrn k
  | 3 => mrn k
  | 4 => mrn (k % 373)
  | 5 => mrn (61 + k % 70)
  | 6 => mrn (61 + k)
  | 12 => 5
  | _ => 0
def pcl (r k : Nat) : Nat := match r with
  | 0 => if 2 ≤ k ∧ k < 3 then 1 else if 3 ≤ k ∧ k < 4 then 3 else if 5 ≤ k ∧ k < 6 then 4 else if 6 ≤ k ∧ k < 7 then 17 else if 7 ≤ k ∧ k < 8 then 5 else if 10 ≤ k ∧ k < 11 then 23 else if 13 ≤ k ∧ k < 14 then 16 else if 23 ≤ k ∧ k < 24 then 18 else if 37 ≤ k ∧ k < 38 then 15 else if 40 ≤ k ∧ k < 41 then 14 else if 43 ≤ k ∧ k < 44 then 9 else if 44 ≤ k ∧ k < 45 then 10 else if 45 ≤ k ∧ k < 46 then 11 else if 46 ≤ k ∧ k < 47 then 12 else 0
  | 1 => 20
  | 2 => if 133 ≤ k then 6 else if k < 3 then 21 else 0
  | 3 => if k < 4 then 19 else 0
  | 4 => if 133 ≤ k % 373 then 7 else if k % 373 < 3 then 22 else 0
  | 10 => 2
  | 14 => 13
  | 16 => 8
  | _ => 0
def MI (st : Nat → Nat → Int32) : Prop := ∀ r k, 0 < mr r k → ∃ n, n < mr r k ∧ st r k = nI n
def MG (S : List Nat) (s0 st : Nat → Nat → Int32) : Prop := MI st ∧ ∀ r k, pcl r k ∈ S → st r k = s0 r k
theorem up2_same (st : Nat → Nat → Int32) (r k : Nat) (v : Int32) : up2 st r k v r k = v := by unfold up2; rw [if_pos rfl, pk_us]
theorem up2_ne (st : Nat → Nat → Int32) {r k a j : Nat} (v : Int32) (h : ¬ (a = r ∧ j = k)) : up2 st r k v a j = st a j := by
  unfold up2
  by_cases e : a = r
  · rw [if_pos e, pk_un (fun q => h ⟨e, q⟩)]
  · rw [if_neg e]
theorem MG.rf {S : List Nat} {st : Nat → Nat → Int32} (h : MI st) : MG S st st := ⟨h, fun _ _ _ => rfl⟩
theorem MI.up {st : Nat → Nat → Int32} (h : MI st) {r k : Nat} {v : Int32} (hv : 0 < mr r k → ∃ n, n < mr r k ∧ v = nI n) : MI (up2 st r k v) := by
  intro a j hj
  by_cases e : a = r ∧ j = k
  · obtain ⟨rfl, rfl⟩ := e
    rw [up2_same]; exact hv hj
  · rw [up2_ne st v e]; exact h a j hj
theorem MG.up {S : List Nat} {s0 st : Nat → Nat → Int32} (h : MG S s0 st) {r k : Nat} {v : Int32} (hv : 0 < mr r k → ∃ n, n < mr r k ∧ v = nI n) (hp : pcl r k ∉ S) : MG S s0 (up2 st r k v) := by
  refine ⟨h.1.up hv, fun a j hj => ?_⟩
  rw [up2_ne st v (fun e => hp (by obtain ⟨rfl, rfl⟩ := e; exact hj))]; exact h.2 a j hj
theorem MG.tr {S S1 : List Nat} {s0 st s1 : Nat → Nat → Int32} (h : MG S s0 st) (h1 : MG S1 st s1) (hs : ∀ c ∈ S, c ∈ S1) : MG S s0 s1 := ⟨h1.1, fun a j hj => (h1.2 a j (hs _ hj)).trans (h.2 a j hj)⟩
theorem MI.at {st : Nat → Nat → Int32} (h : MI st) {r k b : Nat} (hb : mr r k = b) (h0 : 0 < b) : ∃ n, n < b ∧ st r k = nI n := by subst hb; exact h r k h0
theorem iv {f : Nat → Nat} {lo n b : Nat} (h : ∀ i, i < n → f (lo + i) = b) (j : Nat) (h1 : lo ≤ j) (h2 : j < lo + n) : f j = b := by
  have := h (j - lo) (by omega)
  rwa [show lo + (j - lo) = j by omega] at this
theorem ivp {P : Nat → Prop} {lo n : Nat} (h : ∀ i, i < n → P (lo + i)) (j : Nat) (h1 : lo ≤ j) (h2 : j < lo + n) : P j := by
  have := h (j - lo) (by omega)
  rwa [show lo + (j - lo) = j by omega] at this
theorem rz {r k : Nat} {v : Int32} (h : mr r k = 0) : 0 < mr r k → ∃ n, n < mr r k ∧ v = nI n := fun q => absurd h (by omega)
theorem r0 {r k : Nat} : 0 < mr r k → ∃ n, n < mr r k ∧ (0 : Int32) = nI n := fun q => ⟨0, q, rfl⟩
theorem rn {r k b n : Nat} (h : mr r k = b) (hn : n < b) : 0 < mr r k → ∃ m, m < mr r k ∧ nI n = nI m := fun _ => ⟨n, by omega, rfl⟩
theorem rc {st : Nat → Nat → Int32} (hI : MI st) {r k r' k' : Nat} (h : mr r k = mr r' k') : 0 < mr r k → ∃ m, m < mr r k ∧ st r' k' = nI m := fun q => by rw [h] at q ⊢; exact hI r' k' q
theorem pn {r k c : Nat} {S : List Nat} (h : pcl r k = c) (hc : c ∉ S) : pcl r k ∉ S := by rw [h]; exact hc
theorem nI_mul (a b : Nat) : nI a * nI b = nI (a * b) := (Int32.ofNat_mul a b).symm
theorem nI_subN {a b : Nat} (h : b ≤ a) (ha : a < 2 ^ 31) : nI a - nI b = nI (a - b) := by
  have e := nI_add (a - b) b
  rw [show a - b + b = a by omega] at e
  rw [← e]; exact Int32.add_sub_cancel _ _
theorem zz_inidx {x : Int32} {a : Nat} (ha : a < 2 ^ 31) (h0 : 0 ≤ x) (h1 : x ≤ nI a - 1) : ∃ n, n < a ∧ x = nI n := by
  obtain ⟨j, hj, rfl⟩ := nI_of (Int32.not_lt.mpr h0)
  refine ⟨j, ?_, rfl⟩
  rcases Nat.eq_zero_or_pos a with h | h
  · subst h
    have h3 : nI j ≤ (-1 : Int32) := h1
    exact absurd (Int32.le_trans (nI_pos' hj) h3) (by decide)
  · have e : nI a - 1 = nI (a - 1) := nI_subN (b := 1) h ha
    rw [e] at h1
    have := (nI_leI hj (by omega)).mp h1
    omega
theorem zz_rng {x : Int32} {a b : Nat} (hb : b < 2 ^ 31) (h0 : nI a ≤ x) (ha : a < 2 ^ 31) (h1 : x ≤ nI b) : ∃ n, a ≤ n ∧ n ≤ b ∧ x = nI n := by
  obtain ⟨j, hj, rfl⟩ := nI_of (Int32.not_lt.mpr (Int32.le_trans (nI_pos' ha) h0))
  exact ⟨j, (nI_leI ha hj).mp h0, (nI_leI hj hb).mp h1, rfl⟩
theorem nI_nem {n : Nat} (h : n < 2 ^ 31) : ¬ nI n = -1 := fun e => absurd (nI_pos' h) (by rw [e]; decide)
theorem nI_orN (a b : Nat) : nI a ||| nI b = nI (a ||| b) := by
  apply Int32.toBitVec_inj.mp
  apply BitVec.eq_of_toNat_eq
  show (BitVec.ofNat 32 a ||| BitVec.ofNat 32 b).toNat = (BitVec.ofNat 32 (a ||| b)).toNat
  simp [BitVec.toNat_or, Nat.or_mod_two_pow]
theorem zz_andl {a : Nat} {z : Int32} (ha : a < 2 ^ 31) : ∃ n, n ≤ a ∧ nI a &&& z = nI n := by
  refine ⟨(nI a &&& z).toBitVec.toNat, ?_, ?_⟩
  · have h : (nI a &&& z).toBitVec.toNat = (nI a).toBitVec.toNat &&& z.toBitVec.toNat := BitVec.toNat_and ..
    have h2 : (nI a).toBitVec.toNat = a := by show (BitVec.ofNat 32 a).toNat = a; rw [BitVec.toNat_ofNat]; exact Nat.mod_eq_of_lt (by omega)
    rw [h, h2]; exact Nat.and_le_left
  · apply Int32.toBitVec_inj.mp
    show _ = BitVec.ofNat 32 _
    rw [BitVec.ofNat_toNat, BitVec.setWidth_eq]
theorem zz_andr {a : Nat} {z : Int32} (ha : a < 2 ^ 31) : ∃ n, n ≤ a ∧ z &&& nI a = nI n := by rw [Int32.and_comm]; exact zz_andl ha
theorem zz_bits {s z1 z2 : Int32} (h1 : z1 = s - 1) (h2 : z2 = s &&& z1) (h : ¬ s = 0) : z2.toBitVec.toNat < s.toBitVec.toNat := by
  subst h1 h2
  have h0 : s.toBitVec.toNat ≠ 0 := fun q => h (Int32.toBitVec_inj.mp (BitVec.eq_of_toNat_eq (by rw [q]; rfl)))
  have e : (s &&& (s - 1)).toBitVec.toNat = s.toBitVec.toNat &&& (s - 1).toBitVec.toNat := BitVec.toNat_and ..
  have e2 : (s - 1).toBitVec.toNat = s.toBitVec.toNat - 1 := by
    show (s.toBitVec - 1#32).toNat = _
    rw [BitVec.toNat_sub]
    have := s.toBitVec.isLt
    show (2 ^ 32 - 1 + s.toBitVec.toNat) % 2 ^ 32 = _
    omega
  rw [e, e2]
  exact Nat.lt_of_le_of_lt Nat.and_le_right (by omega)
theorem nI_divN {a b : Nat} (ha : a < 2 ^ 31) (hb : 0 < b ∧ b < 2 ^ 31) : nI a / nI b = nI (a / b) := by
  apply Int32.toInt_inj.mp
  rw [Int32.toInt_div, nI_toInt ha, nI_toInt hb.2, nI_toInt (Nat.lt_of_le_of_lt (Nat.div_le_self _ _) ha)]
  have h1 : ((a : Int).tdiv (b : Int)) = ((a / b : Nat) : Int) := rfl
  rw [h1]
  have h2 : a / b < 2 ^ 31 := Nat.lt_of_le_of_lt (Nat.div_le_self _ _) ha
  have h3 : (0 : Int) ≤ ((a / b : Nat) : Int) := Int.natCast_nonneg _
  have h4 : ((a / b : Nat) : Int) < 2 ^ 31 := by exact_mod_cast h2
  generalize ((a / b : Nat) : Int) = q at h3 h4 ⊢
  exact Int.bmod_eq_of_le (by omega) (by omega)
theorem zz_ltany {r : Int32} {k : Nat} (h : ¬ r ≤ nI k) (hk : k < 2 ^ 31) : (k : Int) < r.toInt ∧ r.toInt < 2 ^ 31 := by
  have h1 := Int32.not_le.mp h
  rw [Int32.lt_iff_toInt_lt, nI_toInt hk] at h1
  exact ⟨h1, Int32.toInt_lt r⟩
theorem mr5 (s k : Nat) (h : k < 70) : mr 5 (70 * s + k) = mr 2 (61 + k) := by
  show mrn (61 + (70 * s + k) % 70) = mrn (61 + k)
  rw [Nat.mul_add_mod, Nat.mod_eq_of_lt h]
theorem mr55 (k : Nat) : mr 5 k = mr 5 (k + 70) := by
  show mrn (61 + k % 70) = mrn (61 + (k + 70) % 70)
  rw [Nat.add_mod_right]
theorem hours_in : ∀ a, a < 24 → ∀ b, b < 24 → a ≤ b → ((1 : Int32) <<< (nI (b + 1) &&& 31)) - ((1 : Int32) <<< (nI a &&& 31)) = nI (2 ^ (b + 1) - 2 ^ a) := by decide +kernel
/-- a node of a sentence: those that it joins stand ahead of it -/
def nodeOK (f : Nat → Int32) (b k : Nat) : Prop := (f (b + 4 * k) = 1 → ∃ n, n < k ∧ f (b + 4 * k + 1) = nI n) ∧ (f (b + 4 * k) = 2 ∨ f (b + 4 * k) = 3 → (∃ n, n < k ∧ f (b + 4 * k + 1) = nI n) ∧ ∃ n, n < k ∧ f (b + 4 * k + 2) = nI n) ∧ (f (b + 4 * k) = 68 → ∃ n, n < 8 ∧ f (b + 4 * k + 1) = nI n)
def NKf (f : Nat → Int32) (b : Nat) : Prop := ∀ k, k < 60 → nodeOK f b k
theorem nodeOK.eq {f g : Nat → Int32} {b c k : Nat} (h : nodeOK f b k) (e : ∀ j, j < 3 → g (c + 4 * k + j) = f (b + 4 * k + j)) : nodeOK g c k := by
  have e0 := e 0 (by omega)
  have e1 := e 1 (by omega)
  have e2 := e 2 (by omega)
  rw [Nat.add_zero, Nat.add_zero] at e0
  unfold nodeOK at h ⊢
  rw [e0, e1, e2]; exact h
theorem NKf.eq {f g : Nat → Int32} {b c : Nat} (h : NKf f b) (e : ∀ j, j < 240 → g (c + j) = f (b + j)) : NKf g c := fun k hk => (h k hk).eq (fun j hj => by rw [Nat.add_assoc, Nat.add_assoc]; exact e (4 * k + j) (by omega))
theorem NKf.zero {f : Nat → Int32} {b : Nat} (e : ∀ j, j < 240 → f (b + j) = 0) : NKf f b := by
  intro k hk
  have e0 := e (4 * k) (by omega)
  unfold nodeOK
  rw [e0]
  exact ⟨fun h => absurd h (by decide), fun h => absurd h (by decide), fun h => absurd h (by decide)⟩
def NKn (st : Nat → Nat → Int32) : Prop := NKf (st 2) 133
theorem pcl2 {j : Nat} (h : 133 ≤ j) : pcl 2 j = 6 := by show (if 133 ≤ j then 6 else _) = 6; rw [if_pos h]
theorem NKn.mg {S : List Nat} {s0 s1 : Nat → Nat → Int32} (h : MG S s0 s1) (hS : 6 ∈ S) (hn : NKn s0) : NKn s1 := NKf.eq hn (fun j _ => h.2 2 (133 + j) (by rw [pcl2 (by omega)]; exact hS))
/-- the reader's place is not behind the text's end -/
def TS (st : Nat → Nat → Int32) (a b : Nat) : Prop := st 0 5 = nI a ∧ st 0 3 = nI b ∧ a ≤ b ∧ b < 941
theorem zz_tape {a b : Nat} {r c : Int32} (h : a < b ∨ r = 0) (hc : c ≤ r) (h0 : ¬ c ≤ 0) : a < b := h.elim id (fun e => absurd (by rw [e] at hc; exact hc) h0)
section MZ
variable {p : Program} {l : Launch} {e : Env} {R : Room} {s : State} {m : MethodId} {args : Array Value} {below : List Frame} {meth : Method} {c : Code} {cells slots : Nat} {Q : State → Prop} {pc : Nat}
theorem zz_wf (I : Nat → List Value → Heap → List Loc → Array Slot → Prop)
    (hs : ∀ (n : Nat) (st : List Value) (H : Heap) (locs : List Loc) (ls : Array Slot), I n st H locs ls → (∀ (n' : Nat) (st' : List Value) (H' : Heap) (locs' : List Loc) (ls' : Array Slot), n' < n → I n' st' H' locs' ls' → W p l e R s m args below meth c H' locs' cells slots Q (F0 m pc ls' st')) → W p l e R s m args below meth c H locs cells slots Q (F0 m pc ls st))
    (n : Nat) (st : List Value) (H : Heap) (locs : List Loc) (ls : Array Slot) (h : I n st H locs ls) : W p l e R s m args below meth c H locs cells slots Q (F0 m pc ls st) := by
  induction n using Nat.strongRecOn generalizing st H locs ls with
  | ind n ih => exact hs n st H locs ls h (fun n' st' H' locs' ls' hm h' => ih n' hm st' H' locs' ls' h')
theorem zz_join {pcJ : Nat} {H : Heap} {locs : List Loc} {ls : Array Slot} {st : List Value} (I : List Value → Heap → List Loc → Array Slot → Prop)
    (hj : ∀ (stk : List Value) (H : Heap) (locs : List Loc) (ls : Array Slot), I stk H locs ls → W p l e R s m args below meth c H locs cells slots Q (F0 m pcJ ls stk))
    (hk : (∀ (stk : List Value) (H : Heap) (locs : List Loc) (ls : Array Slot), I stk H locs ls → W p l e R s m args below meth c H locs cells slots Q (F0 m pcJ ls stk)) → W p l e R s m args below meth c H locs cells slots Q (F0 m pc ls st)) : W p l e R s m args below meth c H locs cells slots Q (F0 m pc ls st) := hk hj
end MZ
theorem pcl2c {a : Nat} (h : a < 3) : pcl 2 a = 21 := by
  show (if 133 ≤ a then 6 else if a < 3 then 21 else 0) = 21
  rw [if_neg (by omega), if_pos h]
theorem pcl4c {k a : Nat} (h : a < 3) : pcl 4 (373 * k + a) = 22 := by
  show (if 133 ≤ (373 * k + a) % 373 then 7 else if (373 * k + a) % 373 < 3 then 22 else 0) = 22
  rw [Nat.mul_add_mod, Nat.mod_eq_of_lt (by omega), if_neg (by omega), if_pos h]
theorem upL_ne9 (sl : Nat → Nat → Int64) {r k a j : Nat} (v : Int64) (h : ¬ (a = r ∧ j = k)) : upL sl r k v a j = sl a j := by
  unfold upL
  by_cases e : a = r
  · rw [if_pos e, pk_uLn (fun q => h ⟨e, q⟩)]
  · rw [if_neg e]
def LQ (T : List Nat) (sl sl' : Nat → Nat → Int64) : Prop := ∀ r, r ∈ T → ∀ k, sl' r k = sl r k
theorem LQ.rf {T : List Nat} {sl : Nat → Nat → Int64} : LQ T sl sl := fun _ _ _ => rfl
theorem LQ.tr {T T1 : List Nat} {sl sl' sl2 : Nat → Nat → Int64} (h : LQ T sl sl') (h1 : LQ T1 sl' sl2) (hs : ∀ c ∈ T, c ∈ T1) : LQ T sl sl2 := fun r hr k => (h1 r (hs r hr) k).trans (h r hr k)
theorem LQ.up {T : List Nat} {sl sl' : Nat → Nat → Int64} (h : LQ T sl sl') {r k : Nat} {v : Int64} (hr : r ∉ T) : LQ T sl (upL sl' r k v) := fun a ha j => (upL_ne9 sl' v (fun e => hr (by rw [← e.1]; exact ha))).trans (h a ha j)
