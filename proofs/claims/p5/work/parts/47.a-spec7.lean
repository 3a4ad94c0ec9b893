/-! a BOOK's text: where it goes on and how many LINES there are, or a fault and its place -/
section BSpec
variable (B : Nat → Nat) (g m : Nat) (c : Nat → Nat) (nm : Nat → Nat → Nat)
abbrev bAl (p : Nat) : Prop := tkw B g m p = 6 ∨ tkw B g m p = 7 ∨ tkw B g m p = 8 ∨ tkw B g m p = 5 ∨ tkw B g m p = 12
def bHr (p : Nat) : SR := sOf (eNum B g m p 0 23 (fun p1 v => eNum B g m p1 v 23 (fun p2 _ => kP p2))) 0
def bPl (p : Nat) (k : Nat → SR) : SR := if (sNam B g m p (c 0) (nm 0) 0).1 = 0 then k (sNam B g m p (c 0) (nm 0) 0).2.1 else sNam B g m p (c 0) (nm 0) 0
def bPH (p : Nat) : SR := bPl B g m c nm p (bHr B g m)
def bNu (p a b : Nat) : SR := sOf (eNum B g m p a b (fun q _ => kP q)) 0
def bOf (p : Nat) : SR :=
  if tkw B g m p = 6 ∨ tkw B g m p = 7 then bPH B g m c nm (tkx B g m p)
  else if tkw B g m p = 8 then sNam B g m (tkx B g m p) (c 0) (nm 0) 0
  else if tkw B g m p = 5 then bNu B g m (tkx B g m p) 0 12
  else bNu B g m (tkx B g m p) 1 30
def bDg (p : Nat) : SR := if tkw B g m p = 9 ∨ tkw B g m p = 10 then (0, tkx B g m p, 0) else sf 1 (tka B g m p)
def bPe (p : Nat) : SR := if tkw B g m p = 11 then bPH B g m c nm (tkx B g m p) else sf 1 (tka B g m p)
def bEn (r : SR) : SR := if r.1 = 0 then (if tkd B g m r.2.1 = 4 ∧ tkv B g r.2.1 = 59 then (0, tkx B g m r.2.1, 0) else sf 1 (tka B g m r.2.1)) else r
def bLn (p n : Nat) : SR :=
  if bAl B g m p then (if n = 40 then sf 4 (tka B g m p) else bEn B g m (bOf B g m c nm p))
  else if ¬ tkw B g m p = 24 then sf 1 (tka B g m p)
  else if knw (nm 2) (tkc B g p) (c 2) = false ∧ knw (nm 1) (tkc B g p) (c 1) = false then sf 3 (tka B g m p)
  else if n = 40 then sf 4 (tka B g m p)
  else if knw (nm 2) (tkc B g p) (c 2) = true then bEn B g m (bDg B g m (tkx B g m p))
  else bEn B g m (bPe B g m c nm (tkx B g m p))
def bBk : Nat → Nat → Nat → SR
  | 0, p, n => (0, p, n)
  | k + 1, p, n => if tkd B g m p = 0 then (0, p, n) else if (bLn B g m c nm p n).1 = 0 then bBk k (bLn B g m c nm p n).2.1 (n + 1) else bLn B g m c nm p n
end BSpec
section BLem
variable {B : Nat → Nat} {g m : Nat} {c : Nat → Nat} {nm : Nat → Nat → Nat} {p q n f a : Nat} {r : SR}
theorem sr_0 {x y : Nat} : ((0, x, y) : SR).1 = 0 := rfl
theorem bEn_y (e : r = (0, q, n)) (h : tkd B g m q = 4 ∧ tkv B g q = 59) : bEn B g m r = (0, tkx B g m q, 0) := by
  subst e; show (if (0 : Nat) = 0 then (if tkd B g m q = 4 ∧ tkv B g q = 59 then (0, tkx B g m q, 0) else sf 1 (tka B g m q)) else (0, q, n)) = _
  rw [if_pos rfl, if_pos h]
theorem bEn_n (e : r = (0, q, n)) (h : ¬ (tkd B g m q = 4 ∧ tkv B g q = 59)) : bEn B g m r = sf 1 (tka B g m q) := by
  subst e; show (if (0 : Nat) = 0 then (if tkd B g m q = 4 ∧ tkv B g q = 59 then (0, tkx B g m q, 0) else sf 1 (tka B g m q)) else (0, q, n)) = _
  rw [if_pos rfl, if_neg h]
theorem bEn_f (e : r = sf f a) (hf : 1 ≤ f) : bEn B g m r = sf f a := by
  subst e; unfold bEn; rw [if_neg (sf_ne hf)]
theorem bPl_y {k : Nat → SR} (e : sNam B g m p (c 0) (nm 0) 0 = (0, q, n)) : bPl B g m c nm p k = k q := by
  unfold bPl; rw [e, if_pos rfl]
theorem bPl_f {k : Nat → SR} (e : sNam B g m p (c 0) (nm 0) 0 = sf f a) (hf : 1 ≤ f) : bPl B g m c nm p k = sf f a := by
  unfold bPl; rw [e, if_neg (sf_ne hf)]
theorem bOf_h (h : tkw B g m p = 6 ∨ tkw B g m p = 7) : bOf B g m c nm p = bPH B g m c nm (tkx B g m p) := by
  unfold bOf; rw [if_pos h]
theorem bOf_f (h : tkw B g m p = 8) : bOf B g m c nm p = sNam B g m (tkx B g m p) (c 0) (nm 0) 0 := by
  unfold bOf; rw [if_neg (by omega), if_pos h]
theorem bOf_s (h : tkw B g m p = 5) : bOf B g m c nm p = bNu B g m (tkx B g m p) 0 12 := by
  unfold bOf; rw [if_neg (by omega), if_neg (by omega), if_pos h]
theorem bOf_d (h : tkw B g m p = 12) : bOf B g m c nm p = bNu B g m (tkx B g m p) 1 30 := by
  unfold bOf; rw [if_neg (by omega), if_neg (by omega), if_neg (by omega)]
theorem bDg_y (h : tkw B g m p = 9 ∨ tkw B g m p = 10) : bDg B g m p = (0, tkx B g m p, 0) := by
  unfold bDg; rw [if_pos h]
theorem bDg_n (h : ¬ (tkw B g m p = 9 ∨ tkw B g m p = 10)) : bDg B g m p = sf 1 (tka B g m p) := by
  unfold bDg; rw [if_neg h]
theorem bPe_y (h : tkw B g m p = 11) : bPe B g m c nm p = bPH B g m c nm (tkx B g m p) := by
  unfold bPe; rw [if_pos h]
theorem bPe_n (h : ¬ tkw B g m p = 11) : bPe B g m c nm p = sf 1 (tka B g m p) := by
  unfold bPe; rw [if_neg h]
theorem bLn_a (h : bAl B g m p) (hn : ¬ n = 40) : bLn B g m c nm p n = bEn B g m (bOf B g m c nm p) := by
  unfold bLn; rw [if_pos h, if_neg hn]
theorem bLn_a4 (h : bAl B g m p) (hn : n = 40) : bLn B g m c nm p n = sf 4 (tka B g m p) := by
  unfold bLn; rw [if_pos h, if_pos hn]
theorem bLn_1 (h : ¬ bAl B g m p) (h1 : ¬ tkw B g m p = 24) : bLn B g m c nm p n = sf 1 (tka B g m p) := by
  unfold bLn; rw [if_neg h, if_pos h1]
theorem bLn_3 (h : ¬ bAl B g m p) (h1 : tkw B g m p = 24) (h2 : knw (nm 2) (tkc B g p) (c 2) = false) (h3 : knw (nm 1) (tkc B g p) (c 1) = false) : bLn B g m c nm p n = sf 3 (tka B g m p) := by
  unfold bLn; rw [if_neg h, if_neg (fun z => z h1), if_pos ⟨h2, h3⟩]
theorem bLn_4 (h : ¬ bAl B g m p) (h1 : tkw B g m p = 24) (h2 : ¬ (knw (nm 2) (tkc B g p) (c 2) = false ∧ knw (nm 1) (tkc B g p) (c 1) = false)) (hn : n = 40) : bLn B g m c nm p n = sf 4 (tka B g m p) := by
  unfold bLn; rw [if_neg h, if_neg (fun z => z h1), if_neg h2, if_pos hn]
theorem bLn_d (h : ¬ bAl B g m p) (h1 : tkw B g m p = 24) (h2 : knw (nm 2) (tkc B g p) (c 2) = true) (hn : ¬ n = 40) : bLn B g m c nm p n = bEn B g m (bDg B g m (tkx B g m p)) := by
  unfold bLn; rw [if_neg h, if_neg (fun z => z h1), if_neg (fun z => by rw [h2] at z; exact absurd z.1 (by decide)), if_neg hn, if_pos h2]
theorem bLn_p (h : ¬ bAl B g m p) (h1 : tkw B g m p = 24) (h2 : knw (nm 2) (tkc B g p) (c 2) = false) (h3 : knw (nm 1) (tkc B g p) (c 1) = true) (hn : ¬ n = 40) : bLn B g m c nm p n = bEn B g m (bPe B g m c nm (tkx B g m p)) := by
  unfold bLn; rw [if_neg h, if_neg (fun z => z h1), if_neg (fun z => by rw [h3] at z; exact absurd z.2 (by decide)), if_neg hn, if_neg (by rw [h2]; decide)]
theorem kn_nd (h : knw (nm 2) (tkc B g p) (c 2) = true) : ¬ (knw (nm 2) (tkc B g p) (c 2) = false ∧ knw (nm 1) (tkc B g p) (c 1) = false) := fun z => by rw [h] at z; exact absurd z.1 (by decide)
theorem kn_np (h : knw (nm 1) (tkc B g p) (c 1) = true) : ¬ (knw (nm 2) (tkc B g p) (c 2) = false ∧ knw (nm 1) (tkc B g p) (c 1) = false) := fun z => by rw [h] at z; exact absurd z.2 (by decide)
theorem bBk_0 {k : Nat} (h : tkd B g m p = 0) : bBk B g m c nm k p n = (0, p, n) := by
  cases k with
  | zero => rfl
  | succ k => show (if tkd B g m p = 0 then (0, p, n) else _) = _; rw [if_pos h]
theorem bBk_y {k : Nat} (h : ¬ tkd B g m p = 0) (e : bLn B g m c nm p n = (0, q, f)) : bBk B g m c nm (k + 1) p n = bBk B g m c nm k q (n + 1) := by
  show (if tkd B g m p = 0 then (0, p, n) else if (bLn B g m c nm p n).1 = 0 then bBk B g m c nm k (bLn B g m c nm p n).2.1 (n + 1) else bLn B g m c nm p n) = _
  rw [if_neg h, e, if_pos rfl]
theorem bBk_f {k : Nat} (h : ¬ tkd B g m p = 0) (e : bLn B g m c nm p n = sf f a) (hf : 1 ≤ f) : bBk B g m c nm (k + 1) p n = sf f a := by
  show (if tkd B g m p = 0 then (0, p, n) else if (bLn B g m c nm p n).1 = 0 then bBk B g m c nm k (bLn B g m c nm p n).2.1 (n + 1) else bLn B g m c nm p n) = _
  rw [if_neg h, e, if_neg (sf_ne hf)]
theorem en_c (h : ∀ k, eEnd B g m q k = k (tkx B g m q)) : tkd B g m q = 4 ∧ tkv B g q = 59 := Classical.byContradiction (fun z => by
  have h1 := h kP
  unfold eEnd at h1
  rw [if_pos z] at h1
  have h2 : (1 : Nat) = 0 := congrArg (fun x : PR => x.1) h1
  omega)
theorem en_y (e : r = (0, q, n)) (h : ∀ k, eEnd B g m q k = k (tkx B g m q)) : bEn B g m r = (0, tkx B g m q, 0) := bEn_y e (en_c h)
theorem en_f (e : r = (0, q, n)) (h : ∀ k, eEnd B g m q k = fl f a) (hf : 1 ≤ f) : bEn B g m r = sf f a := by
  by_cases z : ¬ (tkd B g m q = 4 ∧ tkv B g q = 59)
  · have h1 := h kP
    unfold eEnd at h1
    rw [if_pos z] at h1
    have h2 : (1 : Nat) = f := congrArg (fun x : PR => x.1) h1
    have h3 : tka B g m q = a := congrArg (fun x : PR => x.2.1) h1
    rw [bEn_n e z, h2, h3]
  · have h1 := h kP
    unfold eEnd at h1
    rw [if_neg z] at h1
    have h2 : (0 : Nat) = f := congrArg (fun x : PR => x.1) h1
    omega
end BLem
def bMd (B : Nat → Nat) (g m : Nat) (c : Nat → Nat) (nm : Nat → Nat → Nat) (p : Nat) : SR := if bAl B g m p then bOf B g m c nm p else if knw (nm 2) (tkc B g p) (c 2) = true then bDg B g m (tkx B g m p) else bPe B g m c nm (tkx B g m p)
def bMy (B : Nat → Nat) (g m : Nat) (c : Nat → Nat) (nm : Nat → Nat → Nat) (p : Nat) : Prop := bAl B g m p ∨ (tkw B g m p = 24 ∧ (knw (nm 2) (tkc B g p) (c 2) = true ∨ (knw (nm 2) (tkc B g p) (c 2) = false ∧ knw (nm 1) (tkc B g p) (c 1) = true)))
section BMd
variable {B : Nat → Nat} {g m : Nat} {c : Nat → Nat} {nm : Nat → Nat → Nat} {p q n f a : Nat}
theorem bMd_a (h : bAl B g m p) : bMd B g m c nm p = bOf B g m c nm p := by
  unfold bMd; rw [if_pos h]
theorem bMd_d (h : ¬ bAl B g m p) (h2 : knw (nm 2) (tkc B g p) (c 2) = true) : bMd B g m c nm p = bDg B g m (tkx B g m p) := by
  unfold bMd; rw [if_neg h, if_pos h2]
theorem bMd_p (h : ¬ bAl B g m p) (h2 : knw (nm 2) (tkc B g p) (c 2) = false) : bMd B g m c nm p = bPe B g m c nm (tkx B g m p) := by
  unfold bMd; rw [if_neg h, if_neg (by rw [h2]; decide)]
theorem bLn_m (h : bMy B g m c nm p) (hn : ¬ n = 40) : bLn B g m c nm p n = bEn B g m (bMd B g m c nm p) := by
  by_cases ha : bAl B g m p
  · rw [bMd_a ha]; exact bLn_a ha hn
  · rcases h with h | ⟨h1, h2 | ⟨h2, h3⟩⟩
    · exact absurd h ha
    · rw [bMd_d ha h2]; exact bLn_d ha h1 h2 hn
    · rw [bMd_p ha h2]; exact bLn_p ha h1 h2 h3 hn
theorem bLn_m4 (h : bMy B g m c nm p) (hn : n = 40) : bLn B g m c nm p n = sf 4 (tka B g m p) := by
  by_cases ha : bAl B g m p
  · exact bLn_a4 ha hn
  · rcases h with h | ⟨h1, h2 | ⟨h2, h3⟩⟩
    · exact absurd h ha
    · exact bLn_4 ha h1 (kn_nd h2) hn
    · exact bLn_4 ha h1 (kn_np h3) hn
end BMd
section BAct
variable {B : Nat → Nat} {g m : Nat} {c : Nat → Nat} {nm : Nat → Nat → Nat} {p q n f a : Nat}
theorem eO_no {t : Nat → Nat} (h24 : tkw B g m p = 24) (hk : knw t (tkc B g p) n = true) (h : ∀ k, eOne B g m p n t k = fl f a) (hf : 1 ≤ f) : False := by
  have h1 := h kP
  unfold eOne at h1
  rw [if_neg (fun z => z h24), if_neg (by rw [hk]; decide)] at h1
  have h2 : (0 : Nat) = f := congrArg (fun x : PR => x.1) h1
  omega
theorem bMy_p (h : bMy B g m c nm p) (ha : ¬ bAl B g m p) (h2 : knw (nm 2) (tkc B g p) (c 2) = false) : knw (nm 1) (tkc B g p) (c 1) = true := by
  rcases h with h | ⟨h1, h3 | ⟨h3, h4⟩⟩
  · exact absurd h ha
  · rw [h2] at h3; exact absurd h3 (by decide)
  · exact h4
theorem bMy_a (h : bMy B g m c nm p) (ha : ¬ tkw B g m p = 24) : bAl B g m p := by
  rcases h with h | ⟨h1, _⟩
  · exact h
  · exact absurd h1 ha
end BAct
