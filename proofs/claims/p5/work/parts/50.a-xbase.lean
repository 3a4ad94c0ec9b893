/-! the class's world by roles -/
abbrev XR : Type := Nat → Option Nat
def xrefs (r n : Nat) (C : Nat → ClassId) (h : Nat → Option Nat) : va_E := .inl (C r, n, .inr (.inr (.inr (.inr h))))
def xPerson (f : Nat → Int32) (g : Nat → Int64) : va_E := .inr (7, [.long (g 0), .int (f 1), .int (f 2), .int (f 3), .int (f 4), .int (f 5), .int (f 6), .int (f 7), .int (f 8)])
def xDog (f : Nat → Int32) (g : Nat → Int64) : va_E := .inr (3, [.long (g 0), .int (f 1), .int (f 2), .int (f 3), .int (f 4), .int (f 5), .int (f 6)])
def xPark (A : Nat → Nat) (f : Nat → Int32) (r : Nat) : va_E := .inr (5, [.ref (A (r + 1)), .ref (A (r + 2)), .ref (A (r + 3)), .ref (A (r + 4)), .ref (A (r + 5)), .int (f 5), .int (f 6), .int (f 7), .int (f 8), .int (f 9), .int (f 10), .int (f 11)])
def xSent (A : Nat → Nat) (f : Nat → Int32) (r : Nat) : va_E := .inr (8, [.ref (A (r + 1)), .ref (A (r + 2)), .ref (A (r + 3)), .int (f 3), .int (f 4)])
def xfix (A : Nat → Nat) (C : Nat → ClassId) (nb : Nat) (f : Nat → Int32) (g : Nat → Int64) (h : XR) (r : Nat) : va_E := match r with
  | 0 => .inr (10, [.ref (A 1), .ref (A 36), .ref (A 56), .ref (A 3), .ref (A 4), .ref (A 20), .ref (A 24), .ref (A 10), .ref (A 11), .ref (A 13), .ref (A 14), .ref (A 15), .ref (A 16), .ref (A 17), .ref (A 18), .int (f 15), .int (f 16), .int (f 17), .int (f 18)])
  | 1 => .inr (9, [.ref (A 2), .int (f 1), .int (f 2), .int (f 3), .int (f 4), .int (f 5), .int (f 6), va_rf (h 7), .long (g 8), .int (f 9), .long (g 10), .int (f 11), .int (f 12), .int (f 13), .int (f 14)])
  | 2 => .inl (C 2, 940, .inl f)
  | 3 => .inr (6, [.int (f 0), .int (f 1)])
  | 4 => .inr (1, [.ref (A 5), .ref (A 6), .ref (A 7), .ref (A 8), .ref (A 9), .int (f 5), .int (f 6)])
  | 5 => xrefs 5 40 C h
  | 6 => .inl (C 6, 40, .inl f)
  | 7 => .inl (C 7, 40, .inl f)
  | 8 => .inl (C 8, 40, .inl f)
  | 9 => .inl (C 9, 40, .inl f)
  | 10 => .inr (2, [.int (f 0)])
  | 11 => .inr (4, [.ref (A 12), .int (f 1), .int (f 2)])
  | 12 => xrefs 12 9 C (fun j => some (A (76 + 20 * j)))
  | 13 => xrefs 13 2 C (fun j => some (A (256 + 20 * j)))
  | 14 => xrefs 14 2 C (fun j => some (A (28 + 4 * j)))
  | 15 => .inl (C 15, 2, .inl f)
  | 16 => .inl (C 16, 8, .inl f)
  | 17 => .inl (C 17, 4, .inl f)
  | 18 => .inr (0, [.ref (A 19), .int (f 1), .int (f 2), .int (f 3)])
  | _ => .inl (C 19, nb, .inl f)
def xsn (A : Nat → Nat) (C : Nat → ClassId) (f : Nat → Int32) (h : XR) (r o : Nat) : va_E := if o = 0 then xSent A f r else if o = 1 then xrefs r 40 C h else .inl (C r, 40, .inl f)
def xpk (A : Nat → Nat) (C : Nat → ClassId) (f : Nat → Int32) (g : Nat → Int64) (r o : Nat) : va_E := if o = 0 then xPark A f r else if o = 1 then .inl (C r, 5, .inr (.inl g)) else if o = 2 then .inl (C r, 5, .inl f) else if o = 3 then .inl (C r, 5, .inl f) else if o = 4 then xrefs r 8 C (fun j => some (A (r + 2 + j))) else if o = 5 then xrefs r 6 C (fun j => some (A (r + 9 + j))) else if o < 14 then xPerson f g else xDog f g
def xcell (A : Nat → Nat) (C : Nat → ClassId) (nb : Nat) (f : Nat → Int32) (g : Nat → Int64) (h : XR) (r : Nat) : va_E := if r < 20 then xfix A C nb f g h r else if r < 36 then xsn A C f h r ((r - 20) % 4) else xpk A C f g r ((r - 36) % 20)
def xw (A : Nat → Nat) (C : Nat → ClassId) (nb : Nat) (st : Nat → Nat → Int32) (sl : Nat → Nat → Int64) (so : Nat → XR) : va_W := (List.range 296).map (fun r => (A r, xcell A C nb (st r) (sl r) (so r) r))
def xty (r : Nat) : FieldType := if r < 20 then (if r = 5 then .object RX10 else if r = 6 ∨ r = 7 ∨ r = 8 ∨ r = 9 ∨ r = 16 ∨ r = 17 then .int else if r = 12 ∨ r = 13 then .object RX4 else if r = 14 then .object RX7 else if r = 15 then .boolean else .byte) else if r < 36 then (if (r - 20) % 4 = 1 then .object RX10 else if (r - 20) % 4 = 0 then .byte else .int) else (if (r - 36) % 20 = 1 then .long else if (r - 36) % 20 = 2 then .int else if (r - 36) % 20 = 3 then .boolean else if (r - 36) % 20 = 4 then .object RX6 else if (r - 36) % 20 = 5 then .object RX2 else .byte)
def xt (C : Nat → ClassId) : List (ClassId × FieldType) := (List.range 296).map (fun r => (C r, xty r))
theorem xt_is {C : Nat → ClassId} {r : Nat} {ty : FieldType} (hr : r < 296) (h : xty r = ty) : (xt C)[r]? = some (C r, ty) := by
  unfold xt
  rw [List.getElem?_map, List.getElem?_range hr, ← h]; rfl
theorem xty_sn {q o : Nat} (hq : q < 4) (ho : o < 4) : xty (20 + 4 * q + o) = if o = 1 then .object RX10 else if o = 0 then .byte else .int := by
  unfold xty; rw [if_neg (by omega), if_pos (by omega), show (20 + 4 * q + o - 20) % 4 = o by omega]
theorem xty_pk {i o : Nat} (ho : o < 20) : xty (36 + 20 * i + o) = if o = 1 then .long else if o = 2 then .int else if o = 3 then .boolean else if o = 4 then .object RX6 else if o = 5 then .object RX2 else .byte := by
  unfold xty; rw [if_neg (by omega), if_neg (by omega), show (36 + 20 * i + o - 36) % 20 = o by omega]
theorem xw_at {A : Nat → Nat} {C : Nat → ClassId} {nb : Nat} {st : Nat → Nat → Int32} {sl : Nat → Nat → Int64} {so : Nat → XR} {r : Nat} (hr : r < 296) : (xw A C nb st sl so)[r]? = some (A r, xcell A C nb (st r) (sl r) (so r) r) := by
  unfold xw
  rw [List.getElem?_map, List.getElem?_range hr]; rfl
theorem xw_is {A : Nat → Nat} {C : Nat → ClassId} {nb : Nat} {st : Nat → Nat → Int32} {sl : Nat → Nat → Int64} {so : Nat → XR} {r : Nat} {e : va_E} (hr : r < 296) (he : xcell A C nb (st r) (sl r) (so r) r = e) : (xw A C nb st sl so)[r]? = some (A r, e) := by rw [xw_at hr, he]
def upO (so : Nat → XR) (r k : Nat) (v : Option Nat) : Nat → XR := fun a => if a = r then va_up (so a) k v else so a
theorem xw_set {A : Nat → Nat} {C : Nat → ClassId} {nb : Nat} {st st' : Nat → Nat → Int32} {sl sl' : Nat → Nat → Int64} {so so' : Nat → XR} {r : Nat} (h1 : ∀ a, a ≠ r → st' a = st a) (h2 : ∀ a, a ≠ r → sl' a = sl a) (h3 : ∀ a, a ≠ r → so' a = so a) : (xw A C nb st sl so).set r (A r, xcell A C nb (st' r) (sl' r) (so' r) r) = xw A C nb st' sl' so' := by
  apply List.ext_getElem?
  intro j
  rw [List.getElem?_set]
  by_cases e : r = j
  · subst e
    by_cases hr : r < 296
    · rw [if_pos rfl, if_pos (by unfold xw; rw [List.length_map, List.length_range]; exact hr), xw_at hr]
    · rw [if_pos rfl, if_neg (by unfold xw; rw [List.length_map, List.length_range]; exact hr), List.getElem?_eq_none (by unfold xw; rw [List.length_map, List.length_range]; omega)]
  · rw [if_neg e]
    by_cases hj : j < 296
    · rw [xw_at hj, xw_at hj, h1 j (fun q => e q.symm), h2 j (fun q => e q.symm), h3 j (fun q => e q.symm)]
    · rw [List.getElem?_eq_none (by unfold xw; rw [List.length_map, List.length_range]; omega), List.getElem?_eq_none (by unfold xw; rw [List.length_map, List.length_range]; omega)]
theorem up2_o {st : Nat → Nat → Int32} {r k : Nat} {v : Int32} : ∀ a, a ≠ r → up2 st r k v a = st a := fun a h => by unfold up2; rw [if_neg h]
theorem upL_o {st : Nat → Nat → Int64} {r k : Nat} {v : Int64} : ∀ a, a ≠ r → upL st r k v a = st a := fun a h => by unfold upL; rw [if_neg h]
theorem upO_o {st : Nat → XR} {r k : Nat} {v : Option Nat} : ∀ a, a ≠ r → upO st r k v a = st a := fun a h => by unfold upO; rw [if_neg h]
theorem up2_r {st : Nat → Nat → Int32} {r k : Nat} {v : Int32} : up2 st r k v r = upd (st r) k v := by unfold up2; rw [if_pos rfl]
theorem upL_r {st : Nat → Nat → Int64} {r k : Nat} {v : Int64} : upL st r k v r = vp_updL (st r) k v := by unfold upL; rw [if_pos rfl]
theorem upO_r {st : Nat → XR} {r k : Nat} {v : Option Nat} : upO st r k v r = va_up (st r) k v := by unfold upO; rw [if_pos rfl]
theorem xset {A : Nat → Nat} {C : Nat → ClassId} {nb : Nat} {st : Nat → Nat → Int32} {sl : Nat → Nat → Int64} {so : Nat → XR} {r k : Nat} {v : Int32} {e : va_E} (he : xcell A C nb (upd (st r) k v) (sl r) (so r) r = e) : (xw A C nb st sl so).set r (A r, e) = xw A C nb (up2 st r k v) sl so := by
  rw [← he, ← up2_r]; exact xw_set up2_o (fun _ _ => rfl) (fun _ _ => rfl)
theorem xsetL {A : Nat → Nat} {C : Nat → ClassId} {nb : Nat} {st : Nat → Nat → Int32} {sl : Nat → Nat → Int64} {so : Nat → XR} {r k : Nat} {v : Int64} {e : va_E} (he : xcell A C nb (st r) (vp_updL (sl r) k v) (so r) r = e) : (xw A C nb st sl so).set r (A r, e) = xw A C nb st (upL sl r k v) so := by
  rw [← he, ← upL_r]; exact xw_set (fun _ _ => rfl) upL_o (fun _ _ => rfl)
theorem xsetO {A : Nat → Nat} {C : Nat → ClassId} {nb : Nat} {st : Nat → Nat → Int32} {sl : Nat → Nat → Int64} {so : Nat → XR} {r k : Nat} {v : Option Nat} {e : va_E} (he : xcell A C nb (st r) (sl r) (va_up (so r) k v) r = e) : (xw A C nb st sl so).set r (A r, e) = xw A C nb st sl (upO so r k v) := by
  rw [← he, ← upO_r]; exact xw_set (fun _ _ => rfl) (fun _ _ => rfl) upO_o
section XK
variable {A : Nat → Nat} {C : Nat → ClassId} {nb : Nat} {f : Nat → Int32} {g : Nat → Int64} {h : XR} {i p q r : Nat}
theorem xc_fix (hr : r < 20) : xcell A C nb f g h r = xfix A C nb f g h r := by unfold xcell; rw [if_pos hr]
theorem xc_sn (hq : q < 4) {o : Nat} (ho : o < 4) : xcell A C nb f g h (20 + 4 * q + o) = xsn A C f h (20 + 4 * q + o) o := by
  unfold xcell; rw [if_neg (by omega), if_pos (by omega), show (20 + 4 * q + o - 20) % 4 = o by omega]
theorem xc_pk (hi : i < 13) {o : Nat} (ho : o < 20) : xcell A C nb f g h (36 + 20 * i + o) = xpk A C f g (36 + 20 * i + o) o := by
  unfold xcell; rw [if_neg (by omega), if_neg (by omega), show (36 + 20 * i + o - 36) % 20 = o by omega]
theorem xc_person (hi : i < 13) (hp : p < 8) : xcell A C nb f g h (36 + 20 * i + (6 + p)) = xPerson f g := by
  rw [xc_pk hi (by omega)]; unfold xpk
  rw [if_neg (by omega), if_neg (by omega), if_neg (by omega), if_neg (by omega), if_neg (by omega), if_neg (by omega), if_pos (by omega)]
theorem xc_dog (hi : i < 13) (hp : p < 6) : xcell A C nb f g h (36 + 20 * i + (14 + p)) = xDog f g := by
  rw [xc_pk hi (by omega)]; unfold xpk
  rw [if_neg (by omega), if_neg (by omega), if_neg (by omega), if_neg (by omega), if_neg (by omega), if_neg (by omega), if_neg (by omega)]
end XK
def XN (A : Nat → Nat) : Prop := ∀ i j, i < 296 → j < 296 → A i = A j → i = j
def XA (A : Nat → Nat) (sz : Nat) : Nat → Prop := fun q => (∃ k, k < 296 ∧ q = A k) ∨ sz ≤ q
theorem XA.le {A : Nat → Nat} {a b : Nat} (h : a ≤ b) : ∀ q, XA A b q → XA A a q := fun q hq => hq.elim Or.inl (fun x => Or.inr (Nat.le_trans h x))
theorem xw_fst {A : Nat → Nat} {C : Nat → ClassId} {nb : Nat} {st : Nat → Nat → Int32} {sl : Nat → Nat → Int64} {so : Nat → XR} {k : Nat} {q : Nat × va_E} (h : (xw A C nb st sl so)[k]? = some q) : k < 296 ∧ q.1 = A k := by
  by_cases hk : k < 296
  · rw [xw_at hk] at h
    exact ⟨hk, by rw [← Option.some.inj h]⟩
  · rw [List.getElem?_eq_none (by unfold xw; rw [List.length_map, List.length_range]; omega)] at h
    cases h
theorem xD {A : Nat → Nat} (hN : XN A) (C : Nat → ClassId) (nb : Nat) (st : Nat → Nat → Int32) (sl : Nat → Nat → Int64) (so : Nat → XR) (sz : Nat) : va_D (XA A sz) (xw A C nb st sl so) := by
  refine ⟨fun i j p q hp hq hpq => ?_, fun k q hq => ?_⟩
  · have a := xw_fst hp
    have b := xw_fst hq
    exact hN i j a.1 b.1 (by rw [← a.2, ← b.2]; exact hpq)
  · have a := xw_fst hq
    exact Or.inl ⟨k, a.1, a.2⟩
