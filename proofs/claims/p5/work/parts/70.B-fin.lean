def tl13 (P : Nat → Nat → Nat) (Q : Nat → Nat → ClassId) : Nat → va_W
  | 0 => []
  | n + 1 => pkr (P n) (Q n) ++ tl13 P Q n
def tt13 (Q : Nat → Nat → ClassId) : Nat → List (ClassId × FieldType)
  | 0 => []
  | n + 1 => pkt (Q n) ++ tt13 Q n
def cA (a : List Nat) (P : Nat → Nat → Nat) : Nat → Nat := fun r => if r < 36 then a.getD r 0 else P ((r - 36) / 20) ((r - 36) % 20)
def cC (y : List ClassId) (Q : Nat → Nat → ClassId) (yb : ClassId) : Nat → ClassId := fun r => if r < 36 then y.getD r yb else if 0 < (r - 36) % 20 ∧ (r - 36) % 20 < 6 then Q ((r - 36) / 20) ((r - 36) % 20) else yb
def cst : Nat → Nat → Int32 := fun r k => if r = 0 then (if k = 15 ∨ k = 17 ∨ k = 18 then -1 else 0) else if r = 16 ∨ r = 17 then -1 else if 36 ≤ r ∧ (r - 36) % 20 = 0 ∧ k = 8 then 2 else 0
def csl : Nat → Nat → Int64 := fun _ _ => 0
def cso (ad : Nat → Nat) : Nat → XR := fun r k => if r = 1 ∧ k = 7 then some (ad 25) else none
def cT : List Nat := [5, 6, 7, 10, 11, 12, 13, 14, 15, 16, 25, 27, 26, 4, 3, 2, 1, 0, 47, 48, 17, 18, 19, 20, 21, 22, 23, 24, 38, 39, 40, 41, 43, 44, 45, 46]
def cT2 : List Nat := [8, 9, 28, 29, 30, 31, 32, 33, 34, 35, 36, 37, 42]
def cR : List Nat := [17, 16, 15, 14, 13, 0, 1, 2, 36, 56, 3, 4, 5, 6, 7, 8, 9, 20, 21, 22, 23, 24, 25, 26, 27, 10, 12, 11, 76, 96, 116, 136, 156, 176, 196, 216, 236, 256, 28, 29, 30, 31, 276, 32, 33, 34, 35, 18, 19, 277, 278, 279, 280, 281, 282, 283, 284, 285, 286, 287, 288, 289, 290, 291, 292, 293, 294, 295, 257, 258, 259, 260, 261, 262, 263, 264, 265, 266, 267, 268, 269, 270, 271, 272, 273, 274, 275, 237, 238, 239, 240, 241, 242, 243, 244, 245, 246, 247, 248, 249, 250, 251, 252, 253, 254, 255, 217, 218, 219, 220, 221, 222, 223, 224, 225, 226, 227, 228, 229, 230, 231, 232, 233, 234, 235, 197, 198, 199, 200, 201, 202, 203, 204, 205, 206, 207, 208, 209, 210, 211, 212, 213, 214, 215, 177, 178, 179, 180, 181, 182, 183, 184, 185, 186, 187, 188, 189, 190, 191, 192, 193, 194, 195, 157, 158, 159, 160, 161, 162, 163, 164, 165, 166, 167, 168, 169, 170, 171, 172, 173, 174, 175, 137, 138, 139, 140, 141, 142, 143, 144, 145, 146, 147, 148, 149, 150, 151, 152, 153, 154, 155, 117, 118, 119, 120, 121, 122, 123, 124, 125, 126, 127, 128, 129, 130, 131, 132, 133, 134, 135, 97, 98, 99, 100, 101, 102, 103, 104, 105, 106, 107, 108, 109, 110, 111, 112, 113, 114, 115, 77, 78, 79, 80, 81, 82, 83, 84, 85, 86, 87, 88, 89, 90, 91, 92, 93, 94, 95, 57, 58, 59, 60, 61, 62, 63, 64, 65, 66, 67, 68, 69, 70, 71, 72, 73, 74, 75, 37, 38, 39, 40, 41, 42, 43, 44, 45, 46, 47, 48, 49, 50, 51, 52, 53, 54, 55]
def cidx (r : Nat) : Nat := if r < 36 then cT.getD r 0 else if (r - 36) % 20 = 0 then cT2.getD ((r - 36) / 20) 0 else 49 + (19 * (12 - (r - 36) / 20) + ((r - 36) % 20 - 1))
theorem cidx_all : (List.range 296).all (fun r => cR.getD (cidx r) 999 == r) = true := by decide +kernel
theorem cidx_inj {i j : Nat} (hi : i < 296) (hj : j < 296) (h : cidx i = cidx j) : i = j := by
  have a := eq_of_beq (List.all_eq_true.mp cidx_all i (List.mem_range.mpr hi))
  have b := eq_of_beq (List.all_eq_true.mp cidx_all j (List.mem_range.mpr hj))
  rw [← a, ← b, h]
theorem cA_pk {a : List Nat} {P : Nat → Nat → Nat} {i o : Nat} (ho : o < 20) : cA a P (36 + 20 * i + o) = P i o := by
  have h1 : (36 + 20 * i + o - 36) / 20 = i := by omega
  have h2 : (36 + 20 * i + o - 36) % 20 = o := by omega
  unfold cA
  rw [if_neg (by omega), h1, h2]
theorem cC_pk {y : List ClassId} {Q : Nat → Nat → ClassId} {yb : ClassId} {i o : Nat} (h0 : 0 < o) (ho : o < 6) : cC y Q yb (36 + 20 * i + o) = Q i o := by
  have h1 : (36 + 20 * i + o - 36) / 20 = i := by omega
  have h2 : (36 + 20 * i + o - 36) % 20 = o := by omega
  unfold cC
  rw [if_neg (by omega), h1, h2, if_pos ⟨h0, ho⟩]
theorem cC_pb {y : List ClassId} {Q : Nat → Nat → ClassId} {yb : ClassId} {i o : Nat} (h0 : o = 0 ∨ 6 ≤ o) (ho : o < 20) : cC y Q yb (36 + 20 * i + o) = yb := by
  have h2 : (36 + 20 * i + o - 36) % 20 = o := by omega
  unfold cC
  rw [if_neg (by omega), h2, if_neg (by omega)]
theorem cst_pk {i o : Nat} (h0 : 0 < o) (ho : o < 20) : cst (36 + 20 * i + o) = fun _ => 0 := by
  have h2 : (36 + 20 * i + o - 36) % 20 = o := by omega
  funext k
  unfold cst
  rw [if_neg (by omega), if_neg (by omega), if_neg (by omega)]
theorem pkr_at {P : Nat → Nat} {Q : Nat → ClassId} {o : Nat} (h0 : 0 < o) (ho : o < 20) : (pkr P Q)[o - 1]? = some (P o, xpk P Q (fun _ => 0) (fun _ => 0) o o) := by
  match o, h0, ho with
  | 1, _, _ => exact rfl
  | 2, _, _ => exact rfl
  | 3, _, _ => exact rfl
  | 4, _, _ => exact rfl
  | 5, _, _ => exact rfl
  | 6, _, _ => exact rfl
  | 7, _, _ => exact rfl
  | 8, _, _ => exact rfl
  | 9, _, _ => exact rfl
  | 10, _, _ => exact rfl
  | 11, _, _ => exact rfl
  | 12, _, _ => exact rfl
  | 13, _, _ => exact rfl
  | 14, _, _ => exact rfl
  | 15, _, _ => exact rfl
  | 16, _, _ => exact rfl
  | 17, _, _ => exact rfl
  | 18, _, _ => exact rfl
  | 19, _, _ => exact rfl
  | o + 20, _, h => exact absurd h (by omega)
theorem pkr_len {P : Nat → Nat} {Q : Nat → ClassId} : (pkr P Q).length = 19 := rfl
theorem tl_at {P : Nat → Nat → Nat} {Q : Nat → Nat → ClassId} {o : Nat} (h0 : 0 < o) (ho : o < 20) : ∀ (n i : Nat), i < n → (tl13 P Q n)[19 * (n - 1 - i) + (o - 1)]? = some (P i o, xpk (P i) (Q i) (fun _ => 0) (fun _ => 0) o o)
  | 0, i, h => absurd h (by omega)
  | n + 1, i, h => by
    show (pkr (P n) (Q n) ++ tl13 P Q n)[19 * (n + 1 - 1 - i) + (o - 1)]? = _
    by_cases hi : i = n
    · subst hi
      have e : 19 * (i + 1 - 1 - i) + (o - 1) = o - 1 := by omega
      rw [e, List.getElem?_append_left (by rw [pkr_len]; omega)]
      exact pkr_at h0 ho
    · rw [List.getElem?_append_right (by rw [pkr_len]; omega), pkr_len]
      have e : 19 * (n + 1 - 1 - i) + (o - 1) - 19 = 19 * (n - 1 - i) + (o - 1) := by omega
      rw [e]
      exact tl_at h0 ho n i (by omega)
theorem tt_mem {Q : Nat → Nat → ClassId} {q : ClassId × FieldType} : ∀ (n i : Nat), i < n → q ∈ pkt (Q i) → q ∈ tt13 Q n
  | 0, i, h, _ => absurd h (by omega)
  | n + 1, i, h, hq => by
    show q ∈ pkt (Q n) ++ tt13 Q n
    by_cases hi : i = n
    · subst hi
      exact List.mem_append_left _ hq
    · exact List.mem_append_right _ (tt_mem n i (by omega) hq)
theorem xpk_p {A : Nat → Nat} {C : Nat → ClassId} {f : Nat → Int32} {g : Nat → Int64} {r o : Nat} (h : 6 ≤ o) : xpk A C f g r o = if o < 14 then xPerson f g else xDog f g := by
  unfold xpk
  rw [if_neg (by omega), if_neg (by omega), if_neg (by omega), if_neg (by omega), if_neg (by omega), if_neg (by omega)]
theorem xpk_hi {A A' : Nat → Nat} {C C' : Nat → ClassId} {f : Nat → Int32} {g : Nat → Int64} {r r' o : Nat} (h : 6 ≤ o) : xpk A C f g r o = xpk A' C' f g r' o := (xpk_p h).trans (xpk_p h).symm
theorem pk_tail {D : va_G} {H : Heap} {a : List Nat} {P : Nat → Nat → Nat} {y : List ClassId} {Q : Nat → Nat → ClassId} {yb : ClassId} {ad : Nat → Nat} {i o : Nat} (hi : i < 13) (h0 : 0 < o) (ho : o < 20) (h : va_at D vwCl (P i o, xpk (P i) (Q i) (fun _ => 0) (fun _ => 0) o o) H) : va_at D vwCl (cA a P (36 + 20 * i + o), xcell (cA a P) (cC y Q yb) 16 (cst (36 + 20 * i + o)) (csl (36 + 20 * i + o)) (cso ad (36 + 20 * i + o)) (36 + 20 * i + o)) H := by
  rw [xc_pk hi ho, cst_pk h0 ho, cA_pk ho]
  show va_at D vwCl (P i o, xpk (cA a P) (cC y Q yb) (fun _ => 0) (fun _ => 0) (36 + 20 * i + o) o) H
  by_cases h6 : 6 ≤ o
  · rw [xpk_hi (A := cA a P) (C := cC y Q yb) (A' := P i) (C' := Q i) (r := 36 + 20 * i + o) (r' := o) h6]
    exact h
  · match o, h0, h6, h with
    | 1, _, _, h =>
      show va_at D vwCl (P i 1, .inl (cC y Q yb (36 + 20 * i + 1), 5, .inr (.inl (fun _ => 0)))) H
      rw [cC_pk (by omega) (by omega)]
      exact h
    | 2, _, _, h =>
      show va_at D vwCl (P i 2, .inl (cC y Q yb (36 + 20 * i + 2), 5, .inl (fun _ => 0))) H
      rw [cC_pk (by omega) (by omega)]
      exact h
    | 3, _, _, h =>
      show va_at D vwCl (P i 3, .inl (cC y Q yb (36 + 20 * i + 3), 5, .inl (fun _ => 0))) H
      rw [cC_pk (by omega) (by omega)]
      exact h
    | 4, _, _, h =>
      show va_at D vwCl (P i 4, .inl (cC y Q yb (36 + 20 * i + 4), 8, .inr (.inr (.inr (.inr (fun j => some (cA a P (36 + 20 * i + 4 + 2 + j)))))))) H
      rw [cC_pk (by omega) (by omega)]
      exact va_atq (h := fun j => some (P i (4 + 2 + j))) h (fun j hj => by
        have e : 36 + 20 * i + 4 + 2 + j = 36 + 20 * i + (4 + 2 + j) := by omega
        rw [e, cA_pk (by omega)])
    | 5, _, _, h =>
      show va_at D vwCl (P i 5, .inl (cC y Q yb (36 + 20 * i + 5), 6, .inr (.inr (.inr (.inr (fun j => some (cA a P (36 + 20 * i + 5 + 9 + j)))))))) H
      rw [cC_pk (by omega) (by omega)]
      exact va_atq (h := fun j => some (P i (5 + 9 + j))) h (fun j hj => by
        have e : 36 + 20 * i + 5 + 9 + j = 36 + 20 * i + (5 + 9 + j) := by omega
        rw [e, cA_pk (by omega)])
    | o + 6, _, h6, _ => exact absurd (Nat.le_add_left 6 o) h6
abbrev cex (a0 a1 a2 a3 a4 a5 a6 a7 a8 a9 a10 a11 a12 a13 a14 a15 a16 a17 a18 a19 a20 a21 a22 a23 a24 a25 a26 a27 a28 a29 a30 a31 a32 a33 a34 a35 : Nat) (P : Nat → Nat → Nat) (y2 y5 y6 y7 y8 y9 y12 y13 y14 y15 y16 y17 y19 y21 y22 y23 y25 y26 y27 y29 y30 y31 y33 y34 y35 : ClassId) (ad : Nat → Nat) : va_W := [(a17, .inl (y17, 4, .inl (upd (upd (upd (upd (fun _ => 0) 0 (-1)) 1 (-1)) 2 (-1)) 3 (-1)))), (a16, .inl (y16, 8, .inl (upd (upd (upd (upd (upd (upd (upd (upd (fun _ => 0) 0 (-1)) 1 (-1)) 2 (-1)) 3 (-1)) 4 (-1)) 5 (-1)) 6 (-1)) 7 (-1)))), (a15, .inl (y15, 2, .inl (fun _ => 0))), (a14, .inl (y14, 2, .inr (.inr (.inr (.inr (va_up (va_up (fun _ => none) 0 (some a28)) 1 (some a32))))))), (a13, .inl (y13, 2, .inr (.inr (.inr (.inr (va_up (va_up (fun _ => none) 0 (some (P 11 0))) 1 (some (P 12 0)))))))), (a0, .inr (10, [.ref a1, .ref (P 0 0), .ref (P 1 0), .ref a3, .ref a4, .ref a20, .ref a24, .ref a10, .ref a11, .ref a13, .ref a14, .ref a15, .ref a16, .ref a17, .ref a18, .int (-1), .int 0, .int (-1), .int (-1)])), (a1, .inr (9, [.ref a2, .int 0, .int 0, .int 0, .int 0, .int 0, .int 0, .ref (ad 25), .long 0, .int 0, .long 0, .int 0, .int 0, .int 0, .int 0])), (a2, .inl (y2, 940, .inl (fun _ => 0))), ((P 0 0), .inr (5, [.ref (P 0 1), .ref (P 0 2), .ref (P 0 3), .ref (P 0 4), .ref (P 0 5), .int 0, .int 0, .int 0, .int 2, .int 0, .int 0, .int 0])), ((P 1 0), .inr (5, [.ref (P 1 1), .ref (P 1 2), .ref (P 1 3), .ref (P 1 4), .ref (P 1 5), .int 0, .int 0, .int 0, .int 2, .int 0, .int 0, .int 0])), (a3, .inr (6, [.int 0, .int 0])), (a4, .inr (1, [.ref a5, .ref a6, .ref a7, .ref a8, .ref a9, .int 0, .int 0])), (a5, .inl (y5, 40, .inr (.inr (.inr (.inr (fun _ => none)))))), (a6, .inl (y6, 40, .inl (fun _ => 0))), (a7, .inl (y7, 40, .inl (fun _ => 0))), (a8, .inl (y8, 40, .inl (fun _ => 0))), (a9, .inl (y9, 40, .inl (fun _ => 0))), (a20, .inr (8, [.ref a21, .ref a22, .ref a23, .int 0, .int 0])), (a21, .inl (y21, 40, .inr (.inr (.inr (.inr (fun _ => none)))))), (a22, .inl (y22, 40, .inl (fun _ => 0))), (a23, .inl (y23, 40, .inl (fun _ => 0))), (a24, .inr (8, [.ref a25, .ref a26, .ref a27, .int 0, .int 0])), (a25, .inl (y25, 40, .inr (.inr (.inr (.inr (fun _ => none)))))), (a26, .inl (y26, 40, .inl (fun _ => 0))), (a27, .inl (y27, 40, .inl (fun _ => 0))), (a10, .inr (2, [.int 0])), (a12, .inl (y12, 9, .inr (.inr (.inr (.inr (va_up (va_up (va_up (va_up (va_up (va_up (va_up (va_up (va_up (fun _ => none) 0 (some (P 2 0))) 1 (some (P 3 0))) 2 (some (P 4 0))) 3 (some (P 5 0))) 4 (some (P 6 0))) 5 (some (P 7 0))) 6 (some (P 8 0))) 7 (some (P 9 0))) 8 (some (P 10 0)))))))), (a11, .inr (4, [.ref a12, .int 0, .int 0])), ((P 2 0), .inr (5, [.ref (P 2 1), .ref (P 2 2), .ref (P 2 3), .ref (P 2 4), .ref (P 2 5), .int 0, .int 0, .int 0, .int 2, .int 0, .int 0, .int 0])), ((P 3 0), .inr (5, [.ref (P 3 1), .ref (P 3 2), .ref (P 3 3), .ref (P 3 4), .ref (P 3 5), .int 0, .int 0, .int 0, .int 2, .int 0, .int 0, .int 0])), ((P 4 0), .inr (5, [.ref (P 4 1), .ref (P 4 2), .ref (P 4 3), .ref (P 4 4), .ref (P 4 5), .int 0, .int 0, .int 0, .int 2, .int 0, .int 0, .int 0])), ((P 5 0), .inr (5, [.ref (P 5 1), .ref (P 5 2), .ref (P 5 3), .ref (P 5 4), .ref (P 5 5), .int 0, .int 0, .int 0, .int 2, .int 0, .int 0, .int 0])), ((P 6 0), .inr (5, [.ref (P 6 1), .ref (P 6 2), .ref (P 6 3), .ref (P 6 4), .ref (P 6 5), .int 0, .int 0, .int 0, .int 2, .int 0, .int 0, .int 0])), ((P 7 0), .inr (5, [.ref (P 7 1), .ref (P 7 2), .ref (P 7 3), .ref (P 7 4), .ref (P 7 5), .int 0, .int 0, .int 0, .int 2, .int 0, .int 0, .int 0])), ((P 8 0), .inr (5, [.ref (P 8 1), .ref (P 8 2), .ref (P 8 3), .ref (P 8 4), .ref (P 8 5), .int 0, .int 0, .int 0, .int 2, .int 0, .int 0, .int 0])), ((P 9 0), .inr (5, [.ref (P 9 1), .ref (P 9 2), .ref (P 9 3), .ref (P 9 4), .ref (P 9 5), .int 0, .int 0, .int 0, .int 2, .int 0, .int 0, .int 0])), ((P 10 0), .inr (5, [.ref (P 10 1), .ref (P 10 2), .ref (P 10 3), .ref (P 10 4), .ref (P 10 5), .int 0, .int 0, .int 0, .int 2, .int 0, .int 0, .int 0])), ((P 11 0), .inr (5, [.ref (P 11 1), .ref (P 11 2), .ref (P 11 3), .ref (P 11 4), .ref (P 11 5), .int 0, .int 0, .int 0, .int 2, .int 0, .int 0, .int 0])), (a28, .inr (8, [.ref a29, .ref a30, .ref a31, .int 0, .int 0])), (a29, .inl (y29, 40, .inr (.inr (.inr (.inr (fun _ => none)))))), (a30, .inl (y30, 40, .inl (fun _ => 0))), (a31, .inl (y31, 40, .inl (fun _ => 0))), ((P 12 0), .inr (5, [.ref (P 12 1), .ref (P 12 2), .ref (P 12 3), .ref (P 12 4), .ref (P 12 5), .int 0, .int 0, .int 0, .int 2, .int 0, .int 0, .int 0])), (a32, .inr (8, [.ref a33, .ref a34, .ref a35, .int 0, .int 0])), (a33, .inl (y33, 40, .inr (.inr (.inr (.inr (fun _ => none)))))), (a34, .inl (y34, 40, .inl (fun _ => 0))), (a35, .inl (y35, 40, .inl (fun _ => 0))), (a18, .inr (0, [.ref a19, .int 0, .int 0, .int 0])), (a19, .inl (y19, 16, .inl (fun _ => 0)))]
abbrev cty (y2 y5 y6 y7 y8 y9 y12 y13 y14 y15 y16 y17 y19 y21 y22 y23 y25 y26 y27 y29 y30 y31 y33 y34 y35 : ClassId) : List (ClassId × FieldType) := [(y17, .int), (y16, .int), (y15, .boolean), (y14, .object RX7), (y13, .object RX4), (y2, .byte), (y5, .object RX10), (y6, .int), (y7, .int), (y8, .int), (y9, .int), (y21, .object RX10), (y22, .int), (y23, .int), (y25, .object RX10), (y26, .int), (y27, .int), (y12, .object RX4), (y29, .object RX10), (y30, .int), (y31, .int), (y33, .object RX10), (y34, .int), (y35, .int), (y19, .byte)]
set_option maxRecDepth 100000 in
theorem fx_at {D : va_G} {H : Heap} {ad : Nat → Nat} {a0 a1 a2 a3 a4 a5 a6 a7 a8 a9 a10 a11 a12 a13 a14 a15 a16 a17 a18 a19 a20 a21 a22 a23 a24 a25 a26 a27 a28 a29 a30 a31 a32 a33 a34 a35 : Nat} {P : Nat → Nat → Nat} {y2 y5 y6 y7 y8 y9 y12 y13 y14 y15 y16 y17 y19 y21 y22 y23 y25 y26 y27 y29 y30 y31 y33 y34 y35 : ClassId} {Q : Nat → Nat → ClassId} : ∀ r : Nat, r < 36 → ∃ e : va_E, (cex a0 a1 a2 a3 a4 a5 a6 a7 a8 a9 a10 a11 a12 a13 a14 a15 a16 a17 a18 a19 a20 a21 a22 a23 a24 a25 a26 a27 a28 a29 a30 a31 a32 a33 a34 a35 P y2 y5 y6 y7 y8 y9 y12 y13 y14 y15 y16 y17 y19 y21 y22 y23 y25 y26 y27 y29 y30 y31 y33 y34 y35 ad)[cidx r]? = some ((cA [a0, a1, a2, a3, a4, a5, a6, a7, a8, a9, a10, a11, a12, a13, a14, a15, a16, a17, a18, a19, a20, a21, a22, a23, a24, a25, a26, a27, a28, a29, a30, a31, a32, a33, a34, a35] P) r, e) ∧ (va_at D vwCl ((cA [a0, a1, a2, a3, a4, a5, a6, a7, a8, a9, a10, a11, a12, a13, a14, a15, a16, a17, a18, a19, a20, a21, a22, a23, a24, a25, a26, a27, a28, a29, a30, a31, a32, a33, a34, a35] P) r, e) H → va_at D vwCl ((cA [a0, a1, a2, a3, a4, a5, a6, a7, a8, a9, a10, a11, a12, a13, a14, a15, a16, a17, a18, a19, a20, a21, a22, a23, a24, a25, a26, a27, a28, a29, a30, a31, a32, a33, a34, a35] P) r, xcell (cA [a0, a1, a2, a3, a4, a5, a6, a7, a8, a9, a10, a11, a12, a13, a14, a15, a16, a17, a18, a19, a20, a21, a22, a23, a24, a25, a26, a27, a28, a29, a30, a31, a32, a33, a34, a35] P) (cC [y2, y2, y2, y2, y2, y5, y6, y7, y8, y9, y2, y2, y12, y13, y14, y15, y16, y17, y2, y19, y2, y21, y22, y23, y2, y25, y26, y27, y2, y29, y30, y31, y2, y33, y34, y35] Q y2) 16 (cst r) (csl r) (cso ad r) r) H)
  | 0, _ => ⟨_, rfl, fun h => h⟩
  | 1, _ => ⟨_, rfl, fun h => h⟩
  | 2, _ => ⟨_, rfl, fun h => h⟩
  | 3, _ => ⟨_, rfl, fun h => h⟩
  | 4, _ => ⟨_, rfl, fun h => h⟩
  | 5, _ => ⟨_, rfl, fun h => h⟩
  | 6, _ => ⟨_, rfl, fun h => h⟩
  | 7, _ => ⟨_, rfl, fun h => h⟩
  | 8, _ => ⟨_, rfl, fun h => h⟩
  | 9, _ => ⟨_, rfl, fun h => h⟩
  | 10, _ => ⟨_, rfl, fun h => h⟩
  | 11, _ => ⟨_, rfl, fun h => h⟩
  | 12, _ => ⟨_, rfl, fun h => va_atq h (fun j hj => by match j, hj with | 0, _ => rfl | 1, _ => rfl | 2, _ => rfl | 3, _ => rfl | 4, _ => rfl | 5, _ => rfl | 6, _ => rfl | 7, _ => rfl | 8, _ => rfl)⟩
  | 13, _ => ⟨_, rfl, fun h => va_atq h (fun j hj => by match j, hj with | 0, _ => rfl | 1, _ => rfl)⟩
  | 14, _ => ⟨_, rfl, fun h => va_atq h (fun j hj => by match j, hj with | 0, _ => rfl | 1, _ => rfl)⟩
  | 15, _ => ⟨_, rfl, fun h => h⟩
  | 16, _ => ⟨_, rfl, fun h => va_ati h (fun j hj => by match j, hj with | 0, _ => rfl | 1, _ => rfl | 2, _ => rfl | 3, _ => rfl | 4, _ => rfl | 5, _ => rfl | 6, _ => rfl | 7, _ => rfl)⟩
  | 17, _ => ⟨_, rfl, fun h => va_ati h (fun j hj => by match j, hj with | 0, _ => rfl | 1, _ => rfl | 2, _ => rfl | 3, _ => rfl)⟩
  | 18, _ => ⟨_, rfl, fun h => h⟩
  | 19, _ => ⟨_, rfl, fun h => h⟩
  | 20, _ => ⟨_, rfl, fun h => h⟩
  | 21, _ => ⟨_, rfl, fun h => h⟩
  | 22, _ => ⟨_, rfl, fun h => h⟩
  | 23, _ => ⟨_, rfl, fun h => h⟩
  | 24, _ => ⟨_, rfl, fun h => h⟩
  | 25, _ => ⟨_, rfl, fun h => h⟩
  | 26, _ => ⟨_, rfl, fun h => h⟩
  | 27, _ => ⟨_, rfl, fun h => h⟩
  | 28, _ => ⟨_, rfl, fun h => h⟩
  | 29, _ => ⟨_, rfl, fun h => h⟩
  | 30, _ => ⟨_, rfl, fun h => h⟩
  | 31, _ => ⟨_, rfl, fun h => h⟩
  | 32, _ => ⟨_, rfl, fun h => h⟩
  | 33, _ => ⟨_, rfl, fun h => h⟩
  | 34, _ => ⟨_, rfl, fun h => h⟩
  | 35, _ => ⟨_, rfl, fun h => h⟩
  | r + 36, h => absurd h (by omega)
set_option maxRecDepth 100000 in
theorem po_at {D : va_G} {H : Heap} {ad : Nat → Nat} {a0 a1 a2 a3 a4 a5 a6 a7 a8 a9 a10 a11 a12 a13 a14 a15 a16 a17 a18 a19 a20 a21 a22 a23 a24 a25 a26 a27 a28 a29 a30 a31 a32 a33 a34 a35 : Nat} {P : Nat → Nat → Nat} {y2 y5 y6 y7 y8 y9 y12 y13 y14 y15 y16 y17 y19 y21 y22 y23 y25 y26 y27 y29 y30 y31 y33 y34 y35 : ClassId} {Q : Nat → Nat → ClassId} : ∀ i : Nat, i < 13 → ∃ e : va_E, (cex a0 a1 a2 a3 a4 a5 a6 a7 a8 a9 a10 a11 a12 a13 a14 a15 a16 a17 a18 a19 a20 a21 a22 a23 a24 a25 a26 a27 a28 a29 a30 a31 a32 a33 a34 a35 P y2 y5 y6 y7 y8 y9 y12 y13 y14 y15 y16 y17 y19 y21 y22 y23 y25 y26 y27 y29 y30 y31 y33 y34 y35 ad)[cidx (36 + 20 * i)]? = some ((cA [a0, a1, a2, a3, a4, a5, a6, a7, a8, a9, a10, a11, a12, a13, a14, a15, a16, a17, a18, a19, a20, a21, a22, a23, a24, a25, a26, a27, a28, a29, a30, a31, a32, a33, a34, a35] P) (36 + 20 * i), e) ∧ (va_at D vwCl ((cA [a0, a1, a2, a3, a4, a5, a6, a7, a8, a9, a10, a11, a12, a13, a14, a15, a16, a17, a18, a19, a20, a21, a22, a23, a24, a25, a26, a27, a28, a29, a30, a31, a32, a33, a34, a35] P) (36 + 20 * i), e) H → va_at D vwCl ((cA [a0, a1, a2, a3, a4, a5, a6, a7, a8, a9, a10, a11, a12, a13, a14, a15, a16, a17, a18, a19, a20, a21, a22, a23, a24, a25, a26, a27, a28, a29, a30, a31, a32, a33, a34, a35] P) (36 + 20 * i), xcell (cA [a0, a1, a2, a3, a4, a5, a6, a7, a8, a9, a10, a11, a12, a13, a14, a15, a16, a17, a18, a19, a20, a21, a22, a23, a24, a25, a26, a27, a28, a29, a30, a31, a32, a33, a34, a35] P) (cC [y2, y2, y2, y2, y2, y5, y6, y7, y8, y9, y2, y2, y12, y13, y14, y15, y16, y17, y2, y19, y2, y21, y22, y23, y2, y25, y26, y27, y2, y29, y30, y31, y2, y33, y34, y35] Q y2) 16 (cst (36 + 20 * i)) (csl (36 + 20 * i)) (cso ad (36 + 20 * i)) (36 + 20 * i)) H)
  | 0, _ => ⟨_, rfl, fun h => h⟩
  | 1, _ => ⟨_, rfl, fun h => h⟩
  | 2, _ => ⟨_, rfl, fun h => h⟩
  | 3, _ => ⟨_, rfl, fun h => h⟩
  | 4, _ => ⟨_, rfl, fun h => h⟩
  | 5, _ => ⟨_, rfl, fun h => h⟩
  | 6, _ => ⟨_, rfl, fun h => h⟩
  | 7, _ => ⟨_, rfl, fun h => h⟩
  | 8, _ => ⟨_, rfl, fun h => h⟩
  | 9, _ => ⟨_, rfl, fun h => h⟩
  | 10, _ => ⟨_, rfl, fun h => h⟩
  | 11, _ => ⟨_, rfl, fun h => h⟩
  | 12, _ => ⟨_, rfl, fun h => h⟩
  | i + 13, h => absurd h (by omega)
theorem cw_at {D : va_G} {H : Heap} {ad : Nat → Nat} {a0 a1 a2 a3 a4 a5 a6 a7 a8 a9 a10 a11 a12 a13 a14 a15 a16 a17 a18 a19 a20 a21 a22 a23 a24 a25 a26 a27 a28 a29 a30 a31 a32 a33 a34 a35 : Nat} {P : Nat → Nat → Nat} {y2 y5 y6 y7 y8 y9 y12 y13 y14 y15 y16 y17 y19 y21 y22 y23 y25 y26 y27 y29 y30 y31 y33 y34 y35 : ClassId} {Q : Nat → Nat → ClassId} (r : Nat) (hr : r < 296) : ∃ e : va_E, ((cex a0 a1 a2 a3 a4 a5 a6 a7 a8 a9 a10 a11 a12 a13 a14 a15 a16 a17 a18 a19 a20 a21 a22 a23 a24 a25 a26 a27 a28 a29 a30 a31 a32 a33 a34 a35 P y2 y5 y6 y7 y8 y9 y12 y13 y14 y15 y16 y17 y19 y21 y22 y23 y25 y26 y27 y29 y30 y31 y33 y34 y35 ad) ++ tl13 P Q 13)[cidx r]? = some ((cA [a0, a1, a2, a3, a4, a5, a6, a7, a8, a9, a10, a11, a12, a13, a14, a15, a16, a17, a18, a19, a20, a21, a22, a23, a24, a25, a26, a27, a28, a29, a30, a31, a32, a33, a34, a35] P) r, e) ∧ (va_at D vwCl ((cA [a0, a1, a2, a3, a4, a5, a6, a7, a8, a9, a10, a11, a12, a13, a14, a15, a16, a17, a18, a19, a20, a21, a22, a23, a24, a25, a26, a27, a28, a29, a30, a31, a32, a33, a34, a35] P) r, e) H → va_at D vwCl ((cA [a0, a1, a2, a3, a4, a5, a6, a7, a8, a9, a10, a11, a12, a13, a14, a15, a16, a17, a18, a19, a20, a21, a22, a23, a24, a25, a26, a27, a28, a29, a30, a31, a32, a33, a34, a35] P) r, xcell (cA [a0, a1, a2, a3, a4, a5, a6, a7, a8, a9, a10, a11, a12, a13, a14, a15, a16, a17, a18, a19, a20, a21, a22, a23, a24, a25, a26, a27, a28, a29, a30, a31, a32, a33, a34, a35] P) (cC [y2, y2, y2, y2, y2, y5, y6, y7, y8, y9, y2, y2, y12, y13, y14, y15, y16, y17, y2, y19, y2, y21, y22, y23, y2, y25, y26, y27, y2, y29, y30, y31, y2, y33, y34, y35] Q y2) 16 (cst r) (csl r) (cso ad r) r) H) := by
  by_cases h36 : r < 36
  · obtain ⟨e, h1, h2⟩ := fx_at (D := D) (H := H) (ad := ad) (a0 := a0) (a1 := a1) (a2 := a2) (a3 := a3) (a4 := a4) (a5 := a5) (a6 := a6) (a7 := a7) (a8 := a8) (a9 := a9) (a10 := a10) (a11 := a11) (a12 := a12) (a13 := a13) (a14 := a14) (a15 := a15) (a16 := a16) (a17 := a17) (a18 := a18) (a19 := a19) (a20 := a20) (a21 := a21) (a22 := a22) (a23 := a23) (a24 := a24) (a25 := a25) (a26 := a26) (a27 := a27) (a28 := a28) (a29 := a29) (a30 := a30) (a31 := a31) (a32 := a32) (a33 := a33) (a34 := a34) (a35 := a35) (P := P) (Q := Q) (y2 := y2) (y5 := y5) (y6 := y6) (y7 := y7) (y8 := y8) (y9 := y9) (y12 := y12) (y13 := y13) (y14 := y14) (y15 := y15) (y16 := y16) (y17 := y17) (y19 := y19) (y21 := y21) (y22 := y22) (y23 := y23) (y25 := y25) (y26 := y26) (y27 := y27) (y29 := y29) (y30 := y30) (y31 := y31) (y33 := y33) (y34 := y34) (y35 := y35) r h36
    exact ⟨e, (List.getElem?_append_left (List.getElem?_eq_some_iff.mp h1).1).trans h1, h2⟩
  · obtain ⟨i, o, hi, ho, rfl⟩ : ∃ i o, i < 13 ∧ o < 20 ∧ r = 36 + 20 * i + o := ⟨(r - 36) / 20, (r - 36) % 20, by omega, by omega, by omega⟩
    by_cases ho0 : o = 0
    · subst ho0
      obtain ⟨e, h1, h2⟩ := po_at (D := D) (H := H) (ad := ad) (a0 := a0) (a1 := a1) (a2 := a2) (a3 := a3) (a4 := a4) (a5 := a5) (a6 := a6) (a7 := a7) (a8 := a8) (a9 := a9) (a10 := a10) (a11 := a11) (a12 := a12) (a13 := a13) (a14 := a14) (a15 := a15) (a16 := a16) (a17 := a17) (a18 := a18) (a19 := a19) (a20 := a20) (a21 := a21) (a22 := a22) (a23 := a23) (a24 := a24) (a25 := a25) (a26 := a26) (a27 := a27) (a28 := a28) (a29 := a29) (a30 := a30) (a31 := a31) (a32 := a32) (a33 := a33) (a34 := a34) (a35 := a35) (P := P) (Q := Q) (y2 := y2) (y5 := y5) (y6 := y6) (y7 := y7) (y8 := y8) (y9 := y9) (y12 := y12) (y13 := y13) (y14 := y14) (y15 := y15) (y16 := y16) (y17 := y17) (y19 := y19) (y21 := y21) (y22 := y22) (y23 := y23) (y25 := y25) (y26 := y26) (y27 := y27) (y29 := y29) (y30 := y30) (y31 := y31) (y33 := y33) (y34 := y34) (y35 := y35) i hi
      exact ⟨e, (List.getElem?_append_left (List.getElem?_eq_some_iff.mp h1).1).trans h1, h2⟩
    · have e1 : cidx (36 + 20 * i + o) = 49 + (19 * (13 - 1 - i) + (o - 1)) := by
        have h1 : (36 + 20 * i + o - 36) / 20 = i := by omega
        have h2 : (36 + 20 * i + o - 36) % 20 = o := by omega
        unfold cidx
        rw [if_neg (by omega), h1, h2, if_neg ho0]
      refine ⟨xpk (P i) (Q i) (fun _ => 0) (fun _ => 0) o o, ?_, fun h => pk_tail hi (by omega) ho ?_⟩
      · rw [e1, List.getElem?_append_right (show 49 ≤ _ from Nat.le_add_right 49 _), cA_pk ho]
        have e2 : ∀ n : Nat, 49 + n - List.length (cex a0 a1 a2 a3 a4 a5 a6 a7 a8 a9 a10 a11 a12 a13 a14 a15 a16 a17 a18 a19 a20 a21 a22 a23 a24 a25 a26 a27 a28 a29 a30 a31 a32 a33 a34 a35 P y2 y5 y6 y7 y8 y9 y12 y13 y14 y15 y16 y17 y19 y21 y22 y23 y25 y26 y27 y29 y30 y31 y33 y34 y35 ad) = n := fun n => (show 49 + n - 49 = n by omega)
        rw [e2]
        exact tl_at (by omega) ho 13 i hi
      · rw [cA_pk ho] at h
        exact h
set_option maxRecDepth 100000 in
theorem fy_at {Q : Nat → Nat → ClassId} {y2 y5 y6 y7 y8 y9 y12 y13 y14 y15 y16 y17 y19 y21 y22 y23 y25 y26 y27 y29 y30 y31 y33 y34 y35 : ClassId} : ∀ r : Nat, r < 36 → ((cC [y2, y2, y2, y2, y2, y5, y6, y7, y8, y9, y2, y2, y12, y13, y14, y15, y16, y17, y2, y19, y2, y21, y22, y23, y2, y25, y26, y27, y2, y29, y30, y31, y2, y33, y34, y35] Q y2) r, xty r) ∈ (cty y2 y5 y6 y7 y8 y9 y12 y13 y14 y15 y16 y17 y19 y21 y22 y23 y25 y26 y27 y29 y30 y31 y33 y34 y35)
  | 0, _ => List.mem_of_getElem? (i := 5) rfl
  | 1, _ => List.mem_of_getElem? (i := 5) rfl
  | 2, _ => List.mem_of_getElem? (i := 5) rfl
  | 3, _ => List.mem_of_getElem? (i := 5) rfl
  | 4, _ => List.mem_of_getElem? (i := 5) rfl
  | 5, _ => List.mem_of_getElem? (i := 6) rfl
  | 6, _ => List.mem_of_getElem? (i := 7) rfl
  | 7, _ => List.mem_of_getElem? (i := 8) rfl
  | 8, _ => List.mem_of_getElem? (i := 9) rfl
  | 9, _ => List.mem_of_getElem? (i := 10) rfl
  | 10, _ => List.mem_of_getElem? (i := 5) rfl
  | 11, _ => List.mem_of_getElem? (i := 5) rfl
  | 12, _ => List.mem_of_getElem? (i := 17) rfl
  | 13, _ => List.mem_of_getElem? (i := 4) rfl
  | 14, _ => List.mem_of_getElem? (i := 3) rfl
  | 15, _ => List.mem_of_getElem? (i := 2) rfl
  | 16, _ => List.mem_of_getElem? (i := 1) rfl
  | 17, _ => List.mem_of_getElem? (i := 0) rfl
  | 18, _ => List.mem_of_getElem? (i := 5) rfl
  | 19, _ => List.mem_of_getElem? (i := 24) rfl
  | 20, _ => List.mem_of_getElem? (i := 5) rfl
  | 21, _ => List.mem_of_getElem? (i := 11) rfl
  | 22, _ => List.mem_of_getElem? (i := 12) rfl
  | 23, _ => List.mem_of_getElem? (i := 13) rfl
  | 24, _ => List.mem_of_getElem? (i := 5) rfl
  | 25, _ => List.mem_of_getElem? (i := 14) rfl
  | 26, _ => List.mem_of_getElem? (i := 15) rfl
  | 27, _ => List.mem_of_getElem? (i := 16) rfl
  | 28, _ => List.mem_of_getElem? (i := 5) rfl
  | 29, _ => List.mem_of_getElem? (i := 18) rfl
  | 30, _ => List.mem_of_getElem? (i := 19) rfl
  | 31, _ => List.mem_of_getElem? (i := 20) rfl
  | 32, _ => List.mem_of_getElem? (i := 5) rfl
  | 33, _ => List.mem_of_getElem? (i := 21) rfl
  | 34, _ => List.mem_of_getElem? (i := 22) rfl
  | 35, _ => List.mem_of_getElem? (i := 23) rfl
  | r + 36, h => absurd h (by omega)
theorem cy_at {Q : Nat → Nat → ClassId} {y2 y5 y6 y7 y8 y9 y12 y13 y14 y15 y16 y17 y19 y21 y22 y23 y25 y26 y27 y29 y30 y31 y33 y34 y35 : ClassId} (r : Nat) (hr : r < 296) : ((cC [y2, y2, y2, y2, y2, y5, y6, y7, y8, y9, y2, y2, y12, y13, y14, y15, y16, y17, y2, y19, y2, y21, y22, y23, y2, y25, y26, y27, y2, y29, y30, y31, y2, y33, y34, y35] Q y2) r, xty r) ∈ (cty y2 y5 y6 y7 y8 y9 y12 y13 y14 y15 y16 y17 y19 y21 y22 y23 y25 y26 y27 y29 y30 y31 y33 y34 y35) ++ tt13 Q 13 := by
  by_cases h36 : r < 36
  · exact List.mem_append_left _ (fy_at r h36)
  · obtain ⟨i, o, hi, ho, rfl⟩ : ∃ i o, i < 13 ∧ o < 20 ∧ r = 36 + 20 * i + o := ⟨(r - 36) / 20, (r - 36) % 20, by omega, by omega, by omega⟩
    rw [xty_pk ho]
    by_cases hb : o = 0 ∨ 6 ≤ o
    · rw [cC_pb hb ho, if_neg (by omega), if_neg (by omega), if_neg (by omega), if_neg (by omega), if_neg (by omega)]
      exact List.mem_append_left _ (List.mem_of_getElem? (i := 5) rfl)
    · rw [cC_pk (by omega) (by omega)]
      refine List.mem_append_right _ (tt_mem 13 i hi ?_)
      rcases (show o = 1 ∨ o = 2 ∨ o = 3 ∨ o = 4 ∨ o = 5 by omega) with h | h | h | h | h <;> subst h
      · exact List.mem_of_getElem? (i := 0) rfl
      · exact List.mem_of_getElem? (i := 1) rfl
      · exact List.mem_of_getElem? (i := 2) rfl
      · exact List.mem_of_getElem? (i := 3) rfl
      · exact List.mem_of_getElem? (i := 4) rfl
theorem fin_X11 {D : va_G} {H : Heap} {s : State} {A0 : Nat → Prop} {ad : Nat → Nat} (a0 a1 a2 a3 a4 a5 a6 a7 a8 a9 a10 a11 a12 a13 a14 a15 a16 a17 a18 a19 a20 a21 a22 a23 a24 a25 a26 a27 a28 a29 a30 a31 a32 a33 a34 a35 : Nat) (P : Nat → Nat → Nat) (y2 y5 y6 y7 y8 y9 y12 y13 y14 y15 y16 y17 y19 y21 y22 y23 y25 y26 y27 y29 y30 y31 y33 y34 y35 : ClassId) (Q : Nat → Nat → ClassId) (hP : va_P D vwCl ((cex a0 a1 a2 a3 a4 a5 a6 a7 a8 a9 a10 a11 a12 a13 a14 a15 a16 a17 a18 a19 a20 a21 a22 a23 a24 a25 a26 a27 a28 a29 a30 a31 a32 a33 a34 a35 P y2 y5 y6 y7 y8 y9 y12 y13 y14 y15 y16 y17 y19 y21 y22 y23 y25 y26 y27 y29 y30 y31 y33 y34 y35 ad) ++ tl13 P Q 13) H) (hD : va_D A0 ((cex a0 a1 a2 a3 a4 a5 a6 a7 a8 a9 a10 a11 a12 a13 a14 a15 a16 a17 a18 a19 a20 a21 a22 a23 a24 a25 a26 a27 a28 a29 a30 a31 a32 a33 a34 a35 P y2 y5 y6 y7 y8 y9 y12 y13 y14 y15 y16 y17 y19 y21 y22 y23 y25 y26 y27 y29 y30 y31 y33 y34 y35 ad) ++ tl13 P Q 13)) (hK : va_K D vwCl ((cty y2 y5 y6 y7 y8 y9 y12 y13 y14 y15 y16 y17 y19 y21 y22 y23 y25 y26 y27 y29 y30 y31 y33 y34 y35) ++ tt13 Q 13) s) : ∃ (A : Nat → Nat) (C : Nat → ClassId), A 0 = a0 ∧ XN A ∧ (∀ r, r < 296 → A0 (A r)) ∧ va_P D vwCl (xw A C 16 cst csl (cso ad)) H ∧ va_K D vwCl (xt C) s := by
  refine ⟨(cA [a0, a1, a2, a3, a4, a5, a6, a7, a8, a9, a10, a11, a12, a13, a14, a15, a16, a17, a18, a19, a20, a21, a22, a23, a24, a25, a26, a27, a28, a29, a30, a31, a32, a33, a34, a35] P), (cC [y2, y2, y2, y2, y2, y5, y6, y7, y8, y9, y2, y2, y12, y13, y14, y15, y16, y17, y2, y19, y2, y21, y22, y23, y2, y25, y26, y27, y2, y29, y30, y31, y2, y33, y34, y35] Q y2), rfl, fun i j hi hj e => ?_, fun r hr => ?_, fun k q hk => ?_, hK.1, fun k q hk => ?_⟩
  · obtain ⟨e1, h1, _⟩ := cw_at (D := D) (H := H) (ad := ad) (a0 := a0) (a1 := a1) (a2 := a2) (a3 := a3) (a4 := a4) (a5 := a5) (a6 := a6) (a7 := a7) (a8 := a8) (a9 := a9) (a10 := a10) (a11 := a11) (a12 := a12) (a13 := a13) (a14 := a14) (a15 := a15) (a16 := a16) (a17 := a17) (a18 := a18) (a19 := a19) (a20 := a20) (a21 := a21) (a22 := a22) (a23 := a23) (a24 := a24) (a25 := a25) (a26 := a26) (a27 := a27) (a28 := a28) (a29 := a29) (a30 := a30) (a31 := a31) (a32 := a32) (a33 := a33) (a34 := a34) (a35 := a35) (P := P) (Q := Q) (y2 := y2) (y5 := y5) (y6 := y6) (y7 := y7) (y8 := y8) (y9 := y9) (y12 := y12) (y13 := y13) (y14 := y14) (y15 := y15) (y16 := y16) (y17 := y17) (y19 := y19) (y21 := y21) (y22 := y22) (y23 := y23) (y25 := y25) (y26 := y26) (y27 := y27) (y29 := y29) (y30 := y30) (y31 := y31) (y33 := y33) (y34 := y34) (y35 := y35) i hi
    obtain ⟨e2, h2, _⟩ := cw_at (D := D) (H := H) (ad := ad) (a0 := a0) (a1 := a1) (a2 := a2) (a3 := a3) (a4 := a4) (a5 := a5) (a6 := a6) (a7 := a7) (a8 := a8) (a9 := a9) (a10 := a10) (a11 := a11) (a12 := a12) (a13 := a13) (a14 := a14) (a15 := a15) (a16 := a16) (a17 := a17) (a18 := a18) (a19 := a19) (a20 := a20) (a21 := a21) (a22 := a22) (a23 := a23) (a24 := a24) (a25 := a25) (a26 := a26) (a27 := a27) (a28 := a28) (a29 := a29) (a30 := a30) (a31 := a31) (a32 := a32) (a33 := a33) (a34 := a34) (a35 := a35) (P := P) (Q := Q) (y2 := y2) (y5 := y5) (y6 := y6) (y7 := y7) (y8 := y8) (y9 := y9) (y12 := y12) (y13 := y13) (y14 := y14) (y15 := y15) (y16 := y16) (y17 := y17) (y19 := y19) (y21 := y21) (y22 := y22) (y23 := y23) (y25 := y25) (y26 := y26) (y27 := y27) (y29 := y29) (y30 := y30) (y31 := y31) (y33 := y33) (y34 := y34) (y35 := y35) j hj
    exact cidx_inj hi hj (hD.1 _ _ _ _ h1 h2 e)
  · obtain ⟨e1, h1, _⟩ := cw_at (D := D) (H := H) (ad := ad) (a0 := a0) (a1 := a1) (a2 := a2) (a3 := a3) (a4 := a4) (a5 := a5) (a6 := a6) (a7 := a7) (a8 := a8) (a9 := a9) (a10 := a10) (a11 := a11) (a12 := a12) (a13 := a13) (a14 := a14) (a15 := a15) (a16 := a16) (a17 := a17) (a18 := a18) (a19 := a19) (a20 := a20) (a21 := a21) (a22 := a22) (a23 := a23) (a24 := a24) (a25 := a25) (a26 := a26) (a27 := a27) (a28 := a28) (a29 := a29) (a30 := a30) (a31 := a31) (a32 := a32) (a33 := a33) (a34 := a34) (a35 := a35) (P := P) (Q := Q) (y2 := y2) (y5 := y5) (y6 := y6) (y7 := y7) (y8 := y8) (y9 := y9) (y12 := y12) (y13 := y13) (y14 := y14) (y15 := y15) (y16 := y16) (y17 := y17) (y19 := y19) (y21 := y21) (y22 := y22) (y23 := y23) (y25 := y25) (y26 := y26) (y27 := y27) (y29 := y29) (y30 := y30) (y31 := y31) (y33 := y33) (y34 := y34) (y35 := y35) r hr
    exact hD.2 _ _ h1
  · have hl : k < 296 := by
      have := (List.getElem?_eq_some_iff.mp hk).1
      rw [xw, List.length_map, List.length_range] at this
      exact this
    rw [xw_at hl] at hk
    have hk := Option.some.inj hk
    subst hk
    obtain ⟨e1, h1, h2⟩ := cw_at (D := D) (H := H) (ad := ad) (a0 := a0) (a1 := a1) (a2 := a2) (a3 := a3) (a4 := a4) (a5 := a5) (a6 := a6) (a7 := a7) (a8 := a8) (a9 := a9) (a10 := a10) (a11 := a11) (a12 := a12) (a13 := a13) (a14 := a14) (a15 := a15) (a16 := a16) (a17 := a17) (a18 := a18) (a19 := a19) (a20 := a20) (a21 := a21) (a22 := a22) (a23 := a23) (a24 := a24) (a25 := a25) (a26 := a26) (a27 := a27) (a28 := a28) (a29 := a29) (a30 := a30) (a31 := a31) (a32 := a32) (a33 := a33) (a34 := a34) (a35 := a35) (P := P) (Q := Q) (y2 := y2) (y5 := y5) (y6 := y6) (y7 := y7) (y8 := y8) (y9 := y9) (y12 := y12) (y13 := y13) (y14 := y14) (y15 := y15) (y16 := y16) (y17 := y17) (y19 := y19) (y21 := y21) (y22 := y22) (y23 := y23) (y25 := y25) (y26 := y26) (y27 := y27) (y29 := y29) (y30 := y30) (y31 := y31) (y33 := y33) (y34 := y34) (y35 := y35) k hl
    exact h2 (hP _ _ h1)
  · have hl : k < 296 := by
      have := (List.getElem?_eq_some_iff.mp hk).1
      rw [xt, List.length_map, List.length_range] at this
      exact this
    rw [xt_is hl rfl] at hk
    have hk := Option.some.inj hk
    subst hk
    obtain ⟨j, hj⟩ := List.mem_iff_getElem?.mp (cy_at (Q := Q) (y2 := y2) (y5 := y5) (y6 := y6) (y7 := y7) (y8 := y8) (y9 := y9) (y12 := y12) (y13 := y13) (y14 := y14) (y15 := y15) (y16 := y16) (y17 := y17) (y19 := y19) (y21 := y21) (y22 := y22) (y23 := y23) (y25 := y25) (y26 := y26) (y27 := y27) (y29 := y29) (y30 := y30) (y31 := y31) (y33 := y33) (y34 := y34) (y35 := y35) k hl)
    exact hK.2 j _ hj
