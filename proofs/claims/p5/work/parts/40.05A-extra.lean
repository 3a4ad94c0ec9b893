def bt (x : Int32) (i : Nat) : Bool := x.toBitVec.getLsbD i
theorem b_ext {x y : Int32} (h : ∀ i, i < 32 → bt x i = bt y i) : x = y := Int32.toBitVec_inj.mp (BitVec.eq_of_getLsbD_eq (fun i hi => h i hi))
theorem b_or (x y : Int32) (i : Nat) : bt (x ||| y) i = (bt x i || bt y i) := by unfold bt; rw [Int32.toBitVec_or, BitVec.getLsbD_or]
theorem b_and (x y : Int32) (i : Nat) : bt (x &&& y) i = (bt x i && bt y i) := by unfold bt; rw [Int32.toBitVec_and, BitVec.getLsbD_and]
theorem b_xor (x y : Int32) (i : Nat) : bt (x ^^^ y) i = (bt x i ^^ bt y i) := by unfold bt; rw [Int32.toBitVec_xor, BitVec.getLsbD_xor]
theorem b_big {x : Int32} {i : Nat} (h : 32 ≤ i) : bt x i = false := BitVec.getLsbD_of_ge _ _ h
theorem b_0 (i : Nat) : bt 0 i = false := BitVec.getLsbD_zero
theorem s_l : ∀ n, n < 32 → ((nI n &&& 31).toBitVec.smod 32).toNat = n := by decide +kernel
theorem b_sshr (n : Nat) (hn : n < 32) (x : Int32) {i : Nat} (hi : i < 32) : bt (x >>> (nI n &&& 31)) i = if n + i < 32 then bt x (n + i) else bt x 31 := by
  unfold bt
  rw [Int32.toBitVec_shiftRight]
  show (x.toBitVec.sshiftRight ((nI n &&& 31).toBitVec.smod 32).toNat).getLsbD i = _
  rw [s_l n hn, BitVec.getLsbD_sshiftRight, BitVec.msb_eq_getLsbD_last]
  simp [hi]
theorem has_b {a z1 z2 : Int32} {n : Nat} (hn : n < 32) (h1 : z1 = a >>> (nI n &&& 31)) (h2 : z2 = z1 &&& 1) : z2 = 1 ↔ bt a n = true := by
  subst h1 h2
  have h0 : bt ((a >>> (nI n &&& 31)) &&& 1) 0 = bt a n := by
    rw [b_and, b_sshr n hn a (by omega), if_pos (by omega), show bt 1 0 = true by decide, Bool.and_true]; rfl
  constructor
  · intro h
    rw [h] at h0
    rw [← h0]; decide
  · intro h
    apply b_ext
    intro i hi
    by_cases e : i = 0
    · subst e; rw [h0, h]; decide
    · rw [b_and, (by decide : ∀ i, i < 32 → i ≠ 0 → bt 1 i = false) i hi e, Bool.and_false]
theorem bt_nz {x : Int32} (h : ¬ x = 0) : ∃ b, b < 32 ∧ bt x b = true := by
  apply Classical.byContradiction
  intro hn
  apply h
  apply b_ext
  intro i hi
  rw [b_0]
  cases e : bt x i with
  | false => rfl
  | true => exact absurd ⟨i, hi, e⟩ hn
theorem bt31 {n : Nat} (h : n < 2 ^ 31) : bt (nI n) 31 = false := by
  unfold bt
  show (BitVec.ofNat 32 n).getLsbD 31 = false
  rw [BitVec.getLsbD_ofNat]
  simp [Nat.testBit_lt_two_pow h]
theorem zz_div27 {w A : Int64} (h : w.toInt < 27 * A.toInt) (hA : 0 < A.toInt) : w / 27 < A := by
  rw [Int64.lt_iff_toInt_lt, Int64.toInt_div]
  have h1 := Int64.le_toInt w
  have h2 := Int64.toInt_lt w
  have e : (27 : Int64).toInt = 27 := by decide
  rw [e]
  have hq : w.toInt.tdiv 27 < A.toInt ∧ - 2 ^ 63 ≤ w.toInt.tdiv 27 ∧ w.toInt.tdiv 27 < 2 ^ 63 := by
    rw [Int.tdiv_eq_ediv]
    generalize w.toInt = x at *
    split
    · simp only [Int.add_zero]; omega
    · simp only [show Int.sign 27 = 1 by decide]; omega
  rw [Int.bmod_eq_of_le (by omega) (by omega)]
  exact hq.1
theorem zz_lt27 {w : Int64} {z : Int32} (hz : z = lg_cmp w 27) (h : w.toInt < 27) (c : ¬ z < 0) : False := by
  subst hz
  exact c ((lg_cmp_lt w 27).mpr (by rw [Int64.lt_iff_toInt_lt]; exact h))
theorem lN_toInt63 {n : Nat} (h : n < 2 ^ 63) : (lN n).toInt = (n : Int) := lg_ofNat_toInt h
theorem lN_mod {a b : Nat} (ha : a < 2 ^ 63) (hb : b < 2 ^ 63) : lN a % lN b = lN (a % b) := by
  apply Int64.toInt_inj.mp
  rw [Int64.toInt_mod, lN_toInt63 ha, lN_toInt63 hb, lN_toInt63 (Nat.lt_of_le_of_lt (Nat.mod_le _ _) ha)]
  rfl
theorem lN_div {a b : Nat} (ha : a < 2 ^ 63) (hb : b < 2 ^ 63) : lN a / lN b = lN (a / b) := by
  apply Int64.toInt_inj.mp
  rw [Int64.toInt_div, lN_toInt63 ha, lN_toInt63 hb, lN_toInt63 (Nat.lt_of_le_of_lt (Nat.div_le_self _ _) ha)]
  have h1 : ((a : Int).tdiv (b : Int)) = ((a / b : Nat) : Int) := rfl
  rw [h1]
  have h2 : a / b < 2 ^ 63 := Nat.lt_of_le_of_lt (Nat.div_le_self _ _) ha
  have h3 : (0 : Int) ≤ ((a / b : Nat) : Int) := Int.natCast_nonneg _
  have h4 : ((a / b : Nat) : Int) < 2 ^ 63 := by exact_mod_cast h2
  generalize ((a / b : Nat) : Int) = q at h3 h4 ⊢
  exact Int.bmod_eq_of_le (by omega) (by omega)
theorem lN_inj63 {a b : Nat} (ha : a < 2 ^ 63) (hb : b < 2 ^ 63) (h : lN a = lN b) : a = b := by
  have := congrArg Int64.toInt h
  rw [lN_toInt63 ha, lN_toInt63 hb] at this
  exact_mod_cast this
/-- what the common divisor is -/
def CG (a b r : Int64) : Prop := (¬ a = 0 → ¬ r = 0) ∧ ∀ x y : Nat, x < 2 ^ 63 → y < 2 ^ 63 → a = lN x → b = lN y → r = lN (Nat.gcd x y)
def CI (a b u v : Int64) : Prop := (¬ a = 0 → ¬ (u = 0 ∧ v = 0)) ∧ ∀ x y : Nat, x < 2 ^ 63 → y < 2 ^ 63 → a = lN x → b = lN y → ∃ x' y' : Nat, x' < 2 ^ 63 ∧ y' < 2 ^ 63 ∧ u = lN x' ∧ v = lN y' ∧ Nat.gcd x' y' = Nat.gcd x y
theorem CI.rf (a b : Int64) : CI a b a b := ⟨fun h e => h e.1, fun x y hx hy ha hb => ⟨x, y, hx, hy, ha, hb, rfl⟩⟩
theorem CI.step {a b u v w : Int64} (h : CI a b u v) (hv : ¬ v = 0) (hw : w = u % v) : CI a b v w := by
  refine ⟨fun _ e => hv e.1, fun x y hx hy ha hb => ?_⟩
  obtain ⟨x', y', h1, h2, rfl, rfl, h3⟩ := h.2 x y hx hy ha hb
  refine ⟨y', x' % y', h2, Nat.lt_of_le_of_lt (Nat.mod_le _ _) h1, rfl, ?_, ?_⟩
  · rw [hw, lN_mod h1 h2]
  · rw [← h3, Nat.gcd_comm y' (x' % y'), ← Nat.gcd_rec, Nat.gcd_comm]
theorem CI.out {a b u v : Int64} (h : CI a b u v) (hv : v = 0) : CG a b u := by
  refine ⟨fun ha hu => h.1 ha ⟨hu, hv⟩, fun x y hx hy ha hb => ?_⟩
  obtain ⟨x', y', h1, h2, rfl, e, h3⟩ := h.2 x y hx hy ha hb
  have : y' = 0 := lN_inj63 h2 (by decide) (by rw [← e, hv]; rfl)
  rw [← h3, this, Nat.gcd_zero_right]
theorem CI.dec {u v w : Int64} (hv : ¬ v = 0) (hw : w = u % v) : w.toInt.natAbs < v.toInt.natAbs := by
  subst hw
  rw [Int64.toInt_mod]
  have h0 : v.toInt ≠ 0 := fun e => hv (Int64.toInt_inj.mp (by rw [e]; decide))
  rw [Int.natAbs_tmod]
  exact Nat.mod_lt _ (by omega)
theorem lcmp_ne {x : Int64} {z : Int32} (h : z = lg_cmp x 0) (c : ¬ z = 0) : ¬ x = 0 := fun e => c (by rw [h]; exact (lg_cmp_eq x 0).mpr e)
theorem lcmp_eq {x : Int64} {z : Int32} (h : z = lg_cmp x 0) (c : z = 0) : x = 0 := (lg_cmp_eq x 0).mp (by rw [← h]; exact c)
/-- safe and parts, by how many perils -/
def PS (sl : Nat → Nat → Int64) (n : Nat) : Prop := ∃ a b : Nat, sl 0 29 = lN a ∧ sl 0 30 = lN b ∧ 1 ≤ b ∧ a ≤ 144 ^ min n 8 ∧ b ≤ 144 ^ min n 8
theorem upL_same (sl : Nat → Nat → Int64) (r k : Nat) (v : Int64) : upL sl r k v r k = v := by unfold upL; rw [if_pos rfl, pk_uLs]
theorem upL_ne (sl : Nat → Nat → Int64) {r k a j : Nat} (v : Int64) (h : ¬ (a = r ∧ j = k)) : upL sl r k v a j = sl a j := by
  unfold upL
  by_cases e : a = r
  · rw [if_pos e, pk_uLn (fun q => h ⟨e, q⟩)]
  · rw [if_neg e]
theorem PS.init {sl s1 s2 : Nat → Nat → Int64} (h1 : s1 = upL sl 0 29 1) (h2 : s2 = upL s1 0 30 1) : PS s2 0 := by
  subst h1 h2
  refine ⟨1, 1, ?_, ?_, by decide, by decide, by decide⟩
  · rw [upL_ne _ _ (by omega), upL_same]; rfl
  · rw [upL_same]; rfl
theorem PS.more {sl : Nat → Nat → Int64} {n : Nat} (h : PS sl n) (hn : 8 ≤ n) : PS sl (n + 1) := by
  obtain ⟨a, b, h1, h2, h3, h4, h5⟩ := h
  rw [Nat.min_eq_right hn] at h4 h5
  exact ⟨a, b, h1, h2, h3, by rw [Nat.min_eq_right (by omega)]; exact h4, by rw [Nat.min_eq_right (by omega)]; exact h5⟩
theorem PS.nz {sl : Nat → Nat → Int64} {n : Nat} (h : PS sl n) : ¬ sl 0 30 = 0 := by
  obtain ⟨a, b, h1, h2, h3, h4, h5⟩ := h
  intro e
  have hb : b < 2 ^ 63 := Nat.lt_of_le_of_lt h5 (Nat.lt_of_le_of_lt (Nat.pow_le_pow_right (by decide) (Nat.min_le_right n 8)) (by decide))
  have : b = 0 := lN_inj63 hb (by decide) (by rw [← h2, e]; rfl)
  omega
theorem PS.step {sl s1 s2 : Nat → Nat → Int64} {n k : Nat} {z1 z2 z3 r : Int64} (h : PS sl n) (hn : n < 8) (hk : k ≤ 144) (e1 : z1 = (nI k).toInt64) (e2 : z2 = sl 0 29 * z1) (e3 : s1 = upL sl 0 29 z2) (e4 : z3 = s1 0 30 * 144) (e5 : s2 = upL s1 0 30 z3) (hr : CG (s2 0 30) (s2 0 29) r) :
    ¬ r = 0 ∧ ∀ (z4 z5 : Int64) (s3 s4 : Nat → Nat → Int64), z4 = s2 0 29 / r → s3 = upL s2 0 29 z4 → z5 = s3 0 30 / r → s4 = upL s3 0 30 z5 → PS s4 (n + 1) := by
  obtain ⟨a, b, h1, h2, h3, h4, h5⟩ := h
  rw [Nat.min_eq_left (by omega)] at h4 h5
  have p1 : a * k ≤ 144 ^ (n + 1) := by rw [Nat.pow_succ]; exact Nat.mul_le_mul h4 hk
  have p2 : b * 144 ≤ 144 ^ (n + 1) := by rw [Nat.pow_succ]; exact Nat.mul_le_mul h5 (Nat.le_refl _)
  have p3 : 144 ^ (n + 1) < 2 ^ 63 := Nat.lt_of_le_of_lt (Nat.pow_le_pow_right (by decide) (show n + 1 ≤ 8 by omega)) (by decide)
  have q1 : s2 0 29 = lN (a * k) := by
    rw [e5, upL_ne _ _ (by omega), e3, upL_same, e2, e1, h1, nI_l (by omega), lN_mul]
  have q2 : s2 0 30 = lN (b * 144) := by
    rw [e5, upL_same, e4, e3, upL_ne _ _ (by omega), h2]; exact lN_mul b 144
  have q3 := hr.2 (b * 144) (a * k) (by omega) (by omega) q2 q1
  have gp : 0 < Nat.gcd (b * 144) (a * k) := Nat.gcd_pos_of_pos_left _ (by omega)
  have gl : Nat.gcd (b * 144) (a * k) ≤ b * 144 := Nat.gcd_le_left _ (by omega)
  have nz : ¬ r = 0 := by
    intro e
    have : Nat.gcd (b * 144) (a * k) = 0 := lN_inj63 (by omega) (by decide) (by rw [← q3, e]; rfl)
    omega
  refine ⟨nz, fun z4 z5 s3 s4 f1 f2 f3 f4 => ⟨a * k / Nat.gcd (b * 144) (a * k), b * 144 / Nat.gcd (b * 144) (a * k), ?_, ?_, ?_, ?_, ?_⟩⟩
  · rw [f4, upL_ne _ _ (by omega), f2, upL_same, f1, q1, q3, lN_div (by omega) (by omega)]
  · rw [f4, upL_same, f3, f2, upL_ne _ _ (by omega), q2, q3, lN_div (by omega) (by omega)]
  · exact (Nat.one_le_div_iff gp).mpr gl
  · rw [Nat.min_eq_left (by omega)]; exact Nat.le_trans (Nat.div_le_self _ _) p1
  · rw [Nat.min_eq_left (by omega)]; exact Nat.le_trans (Nat.div_le_self _ _) p2
theorem lrem_eq (x y : Int64) : x - x / y * y = x % y := by
  apply Int64.toInt_inj.mp
  have h1 : (x % y).toInt = x.toInt.tmod y.toInt := Int64.toInt_mod ..
  rw [Int64.toInt_sub, Int64.toInt_mul, Int64.toInt_div, h1]
  rw [Int.tmod_def]
  have hb : ((x.toInt - y.toInt * x.toInt.tdiv y.toInt)).bmod (2 ^ 64) = x.toInt - y.toInt * x.toInt.tdiv y.toInt := by
    rw [← Int.tmod_def, ← h1]
    have := Int64.le_toInt (x % y)
    have := Int64.toInt_lt (x % y)
    exact Int.bmod_eq_of_le (by omega) (by omega)
  rw [← hb]
  simp [Int.mul_comm]
