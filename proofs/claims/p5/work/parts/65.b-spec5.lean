/-! the class's tables while it reads -/
theorem dc_pk {o k : Nat} (h : o < 20) : dc 4 (36 + 20 * 1 + o) k = true := by
  unfold dc; rw [show (decide (56 ≤ 36 + 20 * 1 + o) && decide (36 + 20 * 1 + o < 76)) = true from by simp only [Bool.and_eq_true, decide_eq_true_eq]; omega]; simp
theorem dc_pk0 {k : Nat} : dc 4 (36 + 20 * 1) k = true := by
  unfold dc; simp
def PT (c : Nat → Nat) (nm : Nat → Nat → Nat) (st : Nat → Nat → Int32) (sl : Nat → Nat → Int64) : Prop :=
  st (36 + 20 * 1) 5 = nI (c 0) ∧ st (36 + 20 * 1) 6 = nI (c 1) ∧ st (36 + 20 * 1) 7 = nI (c 2) ∧ st 3 0 = nI (c 3) ∧ st 3 1 = nI (c 4) ∧ (c 0 ≤ 5 ∧ c 1 ≤ 8 ∧ c 2 ≤ 6 ∧ c 3 ≤ 12 ∧ c 4 ≤ 1) ∧ (∀ i, i < c 0 → sl (36 + 20 * 1 + 1) i = lN (nm 0 i) ∧ V5 (nm 0 i)) ∧ (∀ i, i < c 1 → sl (36 + 20 * 1 + (6 + i)) 0 = lN (nm 1 i) ∧ V5 (nm 1 i)) ∧ (∀ i, i < c 2 → sl (36 + 20 * 1 + (14 + i)) 0 = lN (nm 2 i) ∧ V5 (nm 2 i))
theorem PT.up {c : Nat → Nat} {nm : Nat → Nat → Nat} {st : Nat → Nat → Int32} {sl : Nat → Nat → Int64} (h : PT c nm st sl) {r k : Nat} {v : Int32} (hk : ¬ (r = 36 + 20 * 1 ∧ 5 ≤ k ∧ k ≤ 7) ∧ ¬ (r = 3 ∧ k ≤ 1)) : PT c nm (up2 st r k v) sl := by
  obtain ⟨a0, a1, a2, a3, a4, a5, a6, a7, a8⟩ := h
  exact ⟨(up2_ne st v (by omega)).trans a0, (up2_ne st v (by omega)).trans a1, (up2_ne st v (by omega)).trans a2, (up2_ne st v (by omega)).trans a3, (up2_ne st v (by omega)).trans a4, a5, a6, a7, a8⟩
theorem dc_out {n r k : Nat} (hn : n < 4) (hr : ¬ r = 1) : dc n r k = false := by
  unfold dc; rw [beq_eq_false_iff_ne.mpr hr, show decide (4 ≤ n) = false from decide_eq_false (by omega), show decide (5 ≤ n) = false from decide_eq_false (by omega), show decide (6 ≤ n) = false from decide_eq_false (by omega)]; simp
theorem PT.fr {c : Nat → Nat} {nm : Nat → Nat → Nat} {n : Nat} {st st' : Nat → Nat → Int32} {sl sl' : Nat → Nat → Int64} {so so' : Nat → XR} (h : PT c nm st sl) (hF : FX n st sl so st' sl' so') (hn : n < 4) : PT c nm st' sl' := by
  obtain ⟨a0, a1, a2, a3, a4, a5, a6, a7, a8⟩ := h
  exact ⟨((hF _ _ (dc_out hn (by omega))).1).trans a0, ((hF _ _ (dc_out hn (by omega))).1).trans a1, ((hF _ _ (dc_out hn (by omega))).1).trans a2, ((hF _ _ (dc_out hn (by omega))).1).trans a3, ((hF _ _ (dc_out hn (by omega))).1).trans a4, a5, fun i hi => ⟨((hF _ _ (dc_out hn (by omega))).2.1).trans (a6 i hi).1, (a6 i hi).2⟩, fun i hi => ⟨((hF _ _ (dc_out hn (by omega))).2.1).trans (a7 i hi).1, (a7 i hi).2⟩, fun i hi => ⟨((hF _ _ (dc_out hn (by omega))).2.1).trans (a8 i hi).1, (a8 i hi).2⟩⟩
theorem tkv_ltc {B : Nat → Nat} {g m p : Nat} {st : Nat → Nat → Int32} (hB : CBt B g m st) (hp : p ≤ g) : tkd B g m p = 3 ∨ tkd B g m p = 4 → tkv B g p < 24000 := by
  obtain ⟨-, -, hg, hm, hb⟩ := hB
  have e0 : ∀ j k : Nat, up2 (up2 (fun (r : Nat) (j : Nat) => nI (B j)) 0 3 (nI g)) 0 4 (nI m) 1 j = nI (B j) := fun j _ => by
    rw [up2_ne _ _ (by omega), up2_ne _ _ (by omega)]
  exact tkv_lt (st := up2 (up2 (fun (r : Nat) (j : Nat) => nI (B j)) 0 3 (nI g)) 0 4 (nI m)) ⟨by rw [up2_ne _ _ (by omega), up2_same], by rw [up2_same], hg, hm, fun j hj => ⟨e0 j 0, (hb j hj).2⟩⟩ hp
/-! one letter more in the class's code; one digit more -/
theorem zz_shl5 (n : Nat) : lN n <<< ((5 : Int32).toInt64 &&& 63) = lN (n * 2 ^ 5) := by
  rw [show ((5 : Int32).toInt64 &&& 63) = lN 5 by decide +kernel]
  apply Int64.toBitVec_inj.mp
  rw [Int64.toBitVec_shiftLeft]
  show BitVec.ofNat 64 n <<< ((BitVec.ofNat 64 5).smod 64) = BitVec.ofNat 64 (n * 2 ^ 5)
  rw [show (BitVec.ofNat 64 5).smod 64 = BitVec.ofNat 64 5 by decide +kernel]
  apply BitVec.eq_of_toNat_eq
  rw [BitVec.shiftLeft_eq', BitVec.toNat_shiftLeft, BitVec.toNat_ofNat, BitVec.toNat_ofNat, BitVec.toNat_ofNat, Nat.mod_eq_of_lt (show 5 < 2 ^ 64 by omega), Nat.shiftLeft_eq, Nat.mul_mod, Nat.mod_mod, ← Nat.mul_mod]
theorem zz_orL (a b : Nat) : lN a ||| lN b = lN (a ||| b) := by
  apply Int64.toBitVec_inj.1
  show BitVec.ofNat 64 a ||| BitVec.ofNat 64 b = BitVec.ofNat 64 (a ||| b)
  apply BitVec.eq_of_toNat_eq
  simp [BitVec.toNat_or, Nat.or_mod_two_pow]
theorem zz_c5 {x b : Nat} (h1 : 97 ≤ b) (h2 : b ≤ 122) : lN x <<< ((5 : Int32).toInt64 &&& 63) ||| (sbt b - 97 + 1).toInt64 = lN (32 * x + (b - 96)) := by
  rw [zz_shl5, sbt_n b (by omega) (by omega)]
  have e : nI b - 97 + 1 = nI (b - 96) := by
    show nI b - nI 97 + nI 1 = _
    rw [nI_subN (by omega) (by omega), nI_add]
    exact congrArg nI (by omega)
  have h5 : x * 2 ^ 5 ||| (b - 96) = 32 * x + (b - 96) := by
    have h := Nat.two_pow_add_eq_or_of_lt (i := 5) (show b - 96 < 2 ^ 5 by omega) x
    rw [Nat.mul_comm x (2 ^ 5), ← h]
  rw [e, nI_l (by omega), zz_orL, h5]
theorem zz_d10c {x b : Nat} (hb : 48 ≤ b) (hc : b ≤ 57) (hx : 10 * x + b < 2 ^ 31) : nI x * 10 + sbt b - 48 = nI (10 * x + (b - 48)) := by
  rw [sbt_n b (by omega) (by omega)]
  show nI x * nI 10 + nI b - nI 48 = _
  rw [nI_mul, nI_add, nI_subN (by omega) (by omega)]
  exact congrArg nI (by omega)
/-! the words' texts -/
theorem sv_kwL : ∀ i, i < 24 → sv_len.getD i 0 = kwL i := by decide +kernel
theorem sv_i24 : ∀ i, i < 26 → 0 < sv_len.getD i 0 → i < 24 := by decide +kernel
theorem zz_chr0 : ∀ i, i < 24 → ∀ j, j < 13 → j < sv_len.getD i 0 → (((sv_byt.getD i []).getD j 0 &&& 255).toUInt32 % 65536).toInt32 = nI (kwB i j) ∧ kwB i j < 128 := by decide +kernel
theorem zz_chr {i j : Nat} (hi : i < 24) (hj : j < 13) (h : j < sv_len.getD i 0) : (((sv_byt.getD i []).getD (nI j).toNatClampNeg 0 &&& 255).toUInt32 % 65536).toInt32 = nI (kwB i j) := by
  rw [nI_clamp (by omega)]; exact (zz_chr0 i hi j hj h).1
theorem sbt_neg : ∀ b, b < 256 → 128 ≤ b → sbt b < 0 := by
  simp only [sbt_v]
  decide +kernel
theorem sbt_eq {b c : Nat} (hb : b < 256) (hc : c < 128) : nI c = sbt b ↔ b = c := by
  by_cases h : b < 128
  · rw [sbt_n b hb h]
    exact ⟨fun e => ((nI_eq (by omega) (by omega)).mp e).symm, fun e => by rw [e]⟩
  · have h1 := sbt_neg b hb (by omega)
    refine ⟨fun e => ?_, fun e => by omega⟩
    rw [← e] at h1
    exact absurd h1 (Int32.not_lt.mpr (nI_pos' (by omega)))
theorem kw_cd {B : Nat → Nat} {q n i : Nat} (hi : i < 24) (hn : n = kwL i) (h : ∀ j, j < n → B (q + j) = kwB i j) : cd5 B q n = kw5 i := by
  subst hn
  exact cd5_eq (kwL i) (fun j hj => by rw [Nat.zero_add]; exact h j hj)
theorem cd_kw {B : Nat → Nat} {q n i : Nat} (hi : i < 24) (hl : ∀ j, j < n → qL (B (q + j))) (h : cd5 B q n = kw5 i) : n = kwL i ∧ ∀ j, j < n → B (q + j) = kwB i j := by
  obtain ⟨e, f⟩ := cd5_inj n (kwL i) hl (kw_let i hi) h
  exact ⟨e, fun j hj => by rw [f j hj, Nat.zero_add]⟩
/-! names that stand in the class's tables -/
theorem PT.slot0 {c : Nat → Nat} {nm : Nat → Nat → Nat} {st : Nat → Nat → Int32} {sl : Nat → Nat → Int64} (h : PT c nm st sl) {k : Nat} {v : Int64} (hk : c 0 ≤ k) : PT c nm st (upL sl (36 + 20 * 1 + 1) k v) := by
  obtain ⟨a0, a1, a2, a3, a4, a5, a6, a7, a8⟩ := h
  exact ⟨a0, a1, a2, a3, a4, a5, fun i hi => ⟨(upL_ne sl v (by omega)).trans (a6 i hi).1, (a6 i hi).2⟩, fun i hi => ⟨(upL_ne sl v (by omega)).trans (a7 i hi).1, (a7 i hi).2⟩, fun i hi => ⟨(upL_ne sl v (by omega)).trans (a8 i hi).1, (a8 i hi).2⟩⟩
theorem PT.slot1 {c : Nat → Nat} {nm : Nat → Nat → Nat} {st : Nat → Nat → Int32} {sl : Nat → Nat → Int64} (h : PT c nm st sl) {n k : Nat} {v : Int64} (hk : c 1 ≤ n ∧ n < 8) : PT c nm st (upL sl (36 + 20 * 1 + (6 + n)) k v) := by
  obtain ⟨a0, a1, a2, a3, a4, a5, a6, a7, a8⟩ := h
  exact ⟨a0, a1, a2, a3, a4, a5, fun i hi => ⟨(upL_ne sl v (by omega)).trans (a6 i hi).1, (a6 i hi).2⟩, fun i hi => ⟨(upL_ne sl v (by omega)).trans (a7 i hi).1, (a7 i hi).2⟩, fun i hi => ⟨(upL_ne sl v (by omega)).trans (a8 i hi).1, (a8 i hi).2⟩⟩
theorem PT.slot2 {c : Nat → Nat} {nm : Nat → Nat → Nat} {st : Nat → Nat → Int32} {sl : Nat → Nat → Int64} (h : PT c nm st sl) {n k : Nat} {v : Int64} (hk : c 2 ≤ n) : PT c nm st (upL sl (36 + 20 * 1 + (14 + n)) k v) := by
  obtain ⟨a0, a1, a2, a3, a4, a5, a6, a7, a8⟩ := h
  exact ⟨a0, a1, a2, a3, a4, a5, fun i hi => ⟨(upL_ne sl v (by omega)).trans (a6 i hi).1, (a6 i hi).2⟩, fun i hi => ⟨(upL_ne sl v (by omega)).trans (a7 i hi).1, (a7 i hi).2⟩, fun i hi => ⟨(upL_ne sl v (by omega)).trans (a8 i hi).1, (a8 i hi).2⟩⟩
theorem uM_s (nm : Nat → Nat → Nat) (a i v : Nat) : uM nm a i v a i = v := by unfold uM; rw [if_pos rfl, uN_s]
theorem uM_i (nm : Nat → Nat → Nat) {a i j : Nat} (v : Nat) (h : ¬ j = i) : uM nm a i v a j = nm a j := by unfold uM; rw [if_pos rfl, uN_n (nm a) v h]
theorem uM_a (nm : Nat → Nat → Nat) {a b i : Nat} (v j : Nat) (h : ¬ b = a) : uM nm a i v b j = nm b j := by unfold uM; rw [if_neg h]
theorem PT.inc0 {c : Nat → Nat} {nm : Nat → Nat → Nat} {st : Nat → Nat → Int32} {sl : Nat → Nat → Int64} (h : PT c nm st sl) {x : Nat} (hm : c 0 < 5) (hx : V5 x) (hs : sl (36 + 20 * 1 + 1) (c 0) = lN x) : PT (uN c 0 (c 0 + 1)) (uM nm 0 (c 0) x) (up2 st (36 + 20 * 1) 5 (nI (c 0 + 1))) sl := by
  obtain ⟨a0, a1, a2, a3, a4, a5, a6, a7, a8⟩ := h
  refine ⟨?_, ?_, ?_, ?_, ?_, ?_, fun i hi => ?_, fun i hi => ?_, fun i hi => ?_⟩
  · rw [uN_s]; exact up2_same st _ _ _
  · rw [uN_n c _ (show ¬ 1 = 0 by omega), up2_ne st _ (by omega)]; exact a1
  · rw [uN_n c _ (show ¬ 2 = 0 by omega), up2_ne st _ (by omega)]; exact a2
  · rw [uN_n c _ (show ¬ 3 = 0 by omega), up2_ne st _ (by omega)]; exact a3
  · rw [uN_n c _ (show ¬ 4 = 0 by omega), up2_ne st _ (by omega)]; exact a4
  · rw [uN_s, uN_n c _ (show ¬ 1 = 0 by omega), uN_n c _ (show ¬ 2 = 0 by omega), uN_n c _ (show ¬ 3 = 0 by omega), uN_n c _ (show ¬ 4 = 0 by omega)]; omega
  · rw [uN_s] at hi
    by_cases y : i = c 0
    · subst y; rw [uM_s]; exact ⟨hs, hx⟩
    · rw [uM_i nm x y]; exact a6 i (by omega)
  · rw [uN_n c _ (show ¬ 1 = 0 by omega)] at hi; rw [uM_a nm x i (by omega)]; exact a7 i hi
  · rw [uN_n c _ (show ¬ 2 = 0 by omega)] at hi; rw [uM_a nm x i (by omega)]; exact a8 i hi
theorem PT.inc1 {c : Nat → Nat} {nm : Nat → Nat → Nat} {st : Nat → Nat → Int32} {sl : Nat → Nat → Int64} (h : PT c nm st sl) {x : Nat} (hm : c 1 < 8) (hx : V5 x) (hs : sl (36 + 20 * 1 + (6 + c 1)) 0 = lN x) : PT (uN c 1 (c 1 + 1)) (uM nm 1 (c 1) x) (up2 st (36 + 20 * 1) 6 (nI (c 1 + 1))) sl := by
  obtain ⟨a0, a1, a2, a3, a4, a5, a6, a7, a8⟩ := h
  refine ⟨?_, ?_, ?_, ?_, ?_, ?_, fun i hi => ?_, fun i hi => ?_, fun i hi => ?_⟩
  · rw [uN_n c _ (show ¬ 0 = 1 by omega), up2_ne st _ (by omega)]; exact a0
  · rw [uN_s]; exact up2_same st _ _ _
  · rw [uN_n c _ (show ¬ 2 = 1 by omega), up2_ne st _ (by omega)]; exact a2
  · rw [uN_n c _ (show ¬ 3 = 1 by omega), up2_ne st _ (by omega)]; exact a3
  · rw [uN_n c _ (show ¬ 4 = 1 by omega), up2_ne st _ (by omega)]; exact a4
  · rw [uN_s, uN_n c _ (show ¬ 0 = 1 by omega), uN_n c _ (show ¬ 2 = 1 by omega), uN_n c _ (show ¬ 3 = 1 by omega), uN_n c _ (show ¬ 4 = 1 by omega)]; omega
  · rw [uN_n c _ (show ¬ 0 = 1 by omega)] at hi; rw [uM_a nm x i (by omega)]; exact a6 i hi
  · rw [uN_s] at hi
    by_cases y : i = c 1
    · subst y; rw [uM_s]; exact ⟨hs, hx⟩
    · rw [uM_i nm x y]; exact a7 i (by omega)
  · rw [uN_n c _ (show ¬ 2 = 1 by omega)] at hi; rw [uM_a nm x i (by omega)]; exact a8 i hi
theorem PT.inc2 {c : Nat → Nat} {nm : Nat → Nat → Nat} {st : Nat → Nat → Int32} {sl : Nat → Nat → Int64} (h : PT c nm st sl) {x : Nat} (hm : c 2 < 6) (hx : V5 x) (hs : sl (36 + 20 * 1 + (14 + c 2)) 0 = lN x) : PT (uN c 2 (c 2 + 1)) (uM nm 2 (c 2) x) (up2 st (36 + 20 * 1) 7 (nI (c 2 + 1))) sl := by
  obtain ⟨a0, a1, a2, a3, a4, a5, a6, a7, a8⟩ := h
  refine ⟨?_, ?_, ?_, ?_, ?_, ?_, fun i hi => ?_, fun i hi => ?_, fun i hi => ?_⟩
  · rw [uN_n c _ (show ¬ 0 = 2 by omega), up2_ne st _ (by omega)]; exact a0
  · rw [uN_n c _ (show ¬ 1 = 2 by omega), up2_ne st _ (by omega)]; exact a1
  · rw [uN_s]; exact up2_same st _ _ _
  · rw [uN_n c _ (show ¬ 3 = 2 by omega), up2_ne st _ (by omega)]; exact a3
  · rw [uN_n c _ (show ¬ 4 = 2 by omega), up2_ne st _ (by omega)]; exact a4
  · rw [uN_s, uN_n c _ (show ¬ 0 = 2 by omega), uN_n c _ (show ¬ 1 = 2 by omega), uN_n c _ (show ¬ 3 = 2 by omega), uN_n c _ (show ¬ 4 = 2 by omega)]; omega
  · rw [uN_n c _ (show ¬ 0 = 2 by omega)] at hi; rw [uM_a nm x i (by omega)]; exact a6 i hi
  · rw [uN_n c _ (show ¬ 1 = 2 by omega)] at hi; rw [uM_a nm x i (by omega)]; exact a7 i hi
  · rw [uN_s] at hi
    by_cases y : i = c 2
    · subst y; rw [uM_s]; exact ⟨hs, hx⟩
    · rw [uM_i nm x y]; exact a8 i (by omega)
theorem PT.inc3 {c : Nat → Nat} {nm : Nat → Nat → Nat} {st : Nat → Nat → Int32} {sl : Nat → Nat → Int64} (h : PT c nm st sl) (hm : c 3 < 12) : PT (uN c 3 (c 3 + 1)) nm (up2 st 3 0 (nI (c 3 + 1))) sl := by
  obtain ⟨a0, a1, a2, a3, a4, a5, a6, a7, a8⟩ := h
  refine ⟨?_, ?_, ?_, ?_, ?_, ?_, fun i hi => ?_, fun i hi => ?_, fun i hi => ?_⟩
  · rw [uN_n c _ (show ¬ 0 = 3 by omega), up2_ne st _ (by omega)]; exact a0
  · rw [uN_n c _ (show ¬ 1 = 3 by omega), up2_ne st _ (by omega)]; exact a1
  · rw [uN_n c _ (show ¬ 2 = 3 by omega), up2_ne st _ (by omega)]; exact a2
  · rw [uN_s]; exact up2_same st _ _ _
  · rw [uN_n c _ (show ¬ 4 = 3 by omega), up2_ne st _ (by omega)]; exact a4
  · rw [uN_s, uN_n c _ (show ¬ 0 = 3 by omega), uN_n c _ (show ¬ 1 = 3 by omega), uN_n c _ (show ¬ 2 = 3 by omega), uN_n c _ (show ¬ 4 = 3 by omega)]; omega
  · rw [uN_n c _ (show ¬ 0 = 3 by omega)] at hi; exact a6 i hi
  · rw [uN_n c _ (show ¬ 1 = 3 by omega)] at hi; exact a7 i hi
  · rw [uN_n c _ (show ¬ 2 = 3 by omega)] at hi; exact a8 i hi
theorem PT.sgn {c : Nat → Nat} {nm : Nat → Nat → Nat} {st : Nat → Nat → Int32} {sl : Nat → Nat → Int64} (h : PT c nm st sl) : PT (uN c 4 1) nm (up2 st 3 1 1) sl := by
  obtain ⟨a0, a1, a2, a3, a4, a5, a6, a7, a8⟩ := h
  refine ⟨?_, ?_, ?_, ?_, ?_, ?_, fun i hi => ?_, fun i hi => ?_, fun i hi => ?_⟩
  · rw [uN_n c _ (show ¬ 0 = 4 by omega), up2_ne st _ (by omega)]; exact a0
  · rw [uN_n c _ (show ¬ 1 = 4 by omega), up2_ne st _ (by omega)]; exact a1
  · rw [uN_n c _ (show ¬ 2 = 4 by omega), up2_ne st _ (by omega)]; exact a2
  · rw [uN_n c _ (show ¬ 3 = 4 by omega), up2_ne st _ (by omega)]; exact a3
  · rw [uN_s]; exact up2_same st _ _ _
  · rw [uN_s, uN_n c _ (show ¬ 0 = 4 by omega), uN_n c _ (show ¬ 1 = 4 by omega), uN_n c _ (show ¬ 2 = 4 by omega), uN_n c _ (show ¬ 3 = 4 by omega)]; omega
  · rw [uN_n c _ (show ¬ 0 = 4 by omega)] at hi; exact a6 i hi
  · rw [uN_n c _ (show ¬ 1 = 4 by omega)] at hi; exact a7 i hi
  · rw [uN_n c _ (show ¬ 2 = 4 by omega)] at hi; exact a8 i hi
theorem lN_V {x y : Nat} (hx : V5 x) (hy : V5 y) (e : lN x = lN y) : x = y := (pk_lEQ (by have := hx.lt.1; omega) (by have := hy.lt.1; omega)).mp e
theorem PT.kn0 {c : Nat → Nat} {nm : Nat → Nat → Nat} {st : Nat → Nat → Int32} {sl : Nat → Nat → Int64} (h : PT c nm st sl) {i x : Nat} (hi : i < c 0) (hx : V5 x) (e : sl (36 + 20 * 1 + 1) i = lN x) : nm 0 i = x := by
  obtain ⟨e1, e2⟩ := h.2.2.2.2.2.2.1 i hi
  exact lN_V e2 hx (e1.symm.trans e)
theorem PT.kn1 {c : Nat → Nat} {nm : Nat → Nat → Nat} {st : Nat → Nat → Int32} {sl : Nat → Nat → Int64} (h : PT c nm st sl) {i x : Nat} (hi : i < c 1) (hx : V5 x) (e : sl (36 + 20 * 1 + (6 + i)) 0 = lN x) : nm 1 i = x := by
  obtain ⟨e1, e2⟩ := h.2.2.2.2.2.2.2.1 i hi
  exact lN_V e2 hx (e1.symm.trans e)
theorem PT.kn2 {c : Nat → Nat} {nm : Nat → Nat → Nat} {st : Nat → Nat → Int32} {sl : Nat → Nat → Int64} (h : PT c nm st sl) {i x : Nat} (hi : i < c 2) (hx : V5 x) (e : sl (36 + 20 * 1 + (14 + i)) 0 = lN x) : nm 2 i = x := by
  obtain ⟨e1, e2⟩ := h.2.2.2.2.2.2.2.2 i hi
  exact lN_V e2 hx (e1.symm.trans e)
theorem PT.nk0 {c : Nat → Nat} {nm : Nat → Nat → Nat} {st : Nat → Nat → Int32} {sl : Nat → Nat → Int64} (h : PT c nm st sl) {x : Nat} (e : ∀ i, i < c 0 → ¬ sl (36 + 20 * 1 + 1) i = lN x) : ∀ i, i < c 0 → ¬ nm 0 i = x := fun i hi z => e i hi (by rw [(h.2.2.2.2.2.2.1 i hi).1, z])
theorem PT.nk1 {c : Nat → Nat} {nm : Nat → Nat → Nat} {st : Nat → Nat → Int32} {sl : Nat → Nat → Int64} (h : PT c nm st sl) {x : Nat} (e : ∀ i, i < c 1 → ¬ sl (36 + 20 * 1 + (6 + i)) 0 = lN x) : ∀ i, i < c 1 → ¬ nm 1 i = x := fun i hi z => e i hi (by rw [(h.2.2.2.2.2.2.2.1 i hi).1, z])
theorem PT.nk2 {c : Nat → Nat} {nm : Nat → Nat → Nat} {st : Nat → Nat → Int32} {sl : Nat → Nat → Int64} (h : PT c nm st sl) {x : Nat} (e : ∀ i, i < c 2 → ¬ sl (36 + 20 * 1 + (14 + i)) 0 = lN x) : ∀ i, i < c 2 → ¬ nm 2 i = x := fun i hi z => e i hi (by rw [(h.2.2.2.2.2.2.2.2 i hi).1, z])
theorem zz_nc0 : ∀ n, n < 128 → ((nI n).toUInt32 % 65536).toInt32 = nI n := by decide +kernel
theorem zz_nc {n : Nat} (h : n < 128) : narrow .char (.int (nI n)) = .int (nI n) := by
  have q := pk_nc (nI n)
  rw [zz_nc0 n h] at q
  exact q
theorem PT.upL {c : Nat → Nat} {nm : Nat → Nat → Nat} {st : Nat → Nat → Int32} {sl : Nat → Nat → Int64} (h : PT c nm st sl) {r k : Nat} {v : Int64} (hk : r < 36) : PT c nm st (upL sl r k v) := by
  obtain ⟨a0, a1, a2, a3, a4, a5, a6, a7, a8⟩ := h
  exact ⟨a0, a1, a2, a3, a4, a5, fun i hi => ⟨(upL_ne sl v (by omega)).trans (a6 i hi).1, (a6 i hi).2⟩, fun i hi => ⟨(upL_ne sl v (by omega)).trans (a7 i hi).1, (a7 i hi).2⟩, fun i hi => ⟨(upL_ne sl v (by omega)).trans (a8 i hi).1, (a8 i hi).2⟩⟩
