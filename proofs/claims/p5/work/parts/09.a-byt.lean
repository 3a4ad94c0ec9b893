/-! the tape's bytes: what is fed, as class and reference keep it -/
def sbt (n : Nat) : Int32 := vp_nar .byte (nI n)
def byn (u : Int32) : Nat := (u &&& 255).toNatClampNeg
def wby (w : Int32) (j : Nat) : Nat := byn ((w.toUInt32 >>> ((nI (24 - 8 * j)).toUInt32 &&& Int32.toUInt32 31)).toInt32)
def fby (a b c d e : Int32) (j : Nat) : Nat := if j < 4 then wby a j else if j < 8 then wby b (j - 4) else if j < 12 then wby c (j - 8) else if j < 16 then wby d (j - 12) else wby e (j - 16)
theorem byn_s (u : Int32) : u &&& 255 = nI (byn u) ∧ byn u < 256 := by
  obtain ⟨n, h, e⟩ := zz_andr (a := 255) (z := u) (by omega)
  have e2 : u &&& 255 = nI n := e
  have e3 : byn u = n := by unfold byn; rw [e2, nI_clamp (by omega)]
  rw [e3]; exact ⟨e2, by omega⟩
theorem byn_b (u : Int32) : vp_nar .byte u.toInt8.toInt32 = sbt (byn u) := by
  unfold sbt
  rw [← (byn_s u).1, pk_vb, vp_nar_byte]
  refine congrArg Int8.toInt32 ?_
  apply Int8.toBitVec_inj.mp
  rw [Int32.toBitVec_toInt8, Int32.toBitVec_toInt8, BitVec.signExtend_eq_setWidth_of_le u.toBitVec (show 8 ≤ 32 by omega), BitVec.signExtend_eq_setWidth_of_le (u &&& 255).toBitVec (show 8 ≤ 32 by omega)]
  show u.toBitVec.setWidth 8 = (u.toBitVec &&& 255#32).setWidth 8
  rw [BitVec.setWidth_and, show (255#32).setWidth 8 = BitVec.allOnes 8 by decide, BitVec.and_allOnes]
theorem fby_lt (a b c d e : Int32) (j : Nat) : fby a b c d e j < 256 := by
  unfold fby wby
  by_cases c1 : j < 4
  · rw [if_pos c1]; exact (byn_s _).2
  · rw [if_neg c1]
    by_cases c2 : j < 8
    · rw [if_pos c2]; exact (byn_s _).2
    · rw [if_neg c2]
      by_cases c3 : j < 12
      · rw [if_pos c3]; exact (byn_s _).2
      · rw [if_neg c3]
        by_cases c4 : j < 16
        · rw [if_pos c4]; exact (byn_s _).2
        · rw [if_neg c4]; exact (byn_s _).2
