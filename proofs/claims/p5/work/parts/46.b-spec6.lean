/-! a SENTENCE's text: where it goes on and how many ONES there are, or a fault and its place -/
abbrev SR := Nat × Nat × Nat
def sf (f a : Nat) : SR := (f, a, 0)
def kP (q : Nat) : PR := (0, q, fun _ => 0, fun _ _ => 0)
def sOf (r : PR) (o : Nat) : SR := (r.1, r.2.1, if r.1 = 0 then o else 0)
theorem sOf_y {r : PR} {q o : Nat} (h : r = kP q) : sOf r o = (0, q, o) := by
  subst h
  have h0 : (kP q).1 = 0 := rfl
  unfold sOf
  rw [if_pos h0]
  rfl
theorem sOf_f {r : PR} {f a o : Nat} (h : r = fl f a) (hf : 1 ≤ f) : sOf r o = sf f a := by
  subst h
  show ((f, a, if f = 0 then o else 0) : SR) = (f, a, 0)
  rw [if_neg (by omega)]
theorem sOf_w {r : PR} {o q u : Nat} (h : sOf r o = (0, q, u)) : u = o := by
  have h1 : r.1 = 0 := congrArg (fun x : SR => x.1) h
  have h2 : (if r.1 = 0 then o else 0) = u := congrArg (fun x : SR => x.2.2) h
  rw [if_pos h1] at h2
  exact h2.symm
section SSpec
variable (B : Nat → Nat) (g m : Nat)
abbrev sBeg (p : Nat) : Prop := (tkd B g m p = 4 ∧ tkv B g p = 40) ∨ (15 ≤ tkw B g m p ∧ tkw B g m p ≤ 23)
abbrev sJn (p : Nat) : Prop := tkw B g m p = 13 ∨ tkw B g m p = 14
def sLoop (one : Nat → Nat → SR) : Nat → Nat → Nat → SR
  | 0, p, o => (0, p, o)
  | n + 1, p, o => if sJn B g m p then
      (if (one (tkx B g m p) o).1 = 0 then sLoop one n (one (tkx B g m p) o).2.1 (one (tkx B g m p) o).2.2 else one (tkx B g m p) o)
    else (0, p, o)
def sCond (one : Nat → Nat → SR) (p o : Nat) : SR := if (one p o).1 = 0 then sLoop B g m one 21 (one p o).2.1 (one p o).2.2 else one p o
def sBra (r : SR) : SR := if r.1 = 0 then (if tkd B g m r.2.1 = 4 ∧ tkv B g r.2.1 = 41 then (0, tkx B g m r.2.1, r.2.2) else sf 1 (tka B g m r.2.1)) else r
def sNam (p n : Nat) (f : Nat → Nat) (o : Nat) : SR := sOf (eOne B g m p n f kP) o
def sNum (p o : Nat) : SR := sOf (eNum B g m p 0 999 (fun q _ => kP q)) o
def sCmp (p o : Nat) : SR := if ¬ (tkd B g m p = 4 ∧ (tkv B g p = 60 ∨ tkv B g p = 61 ∨ tkv B g p = 62)) then sf 1 (tka B g m p) else sNum B g m (tkx B g m p) o
def sIn (c : Nat → Nat) (nm : Nat → Nat → Nat) (one : Nat → Nat → SR) (p o : Nat) : SR :=
  if tkd B g m p = 4 ∧ tkv B g p = 40 then sBra B g m (sCond B g m one (tkx B g m p) o)
  else if tkw B g m p = 15 then one (tkx B g m p) o
  else if tkw B g m p < 18 then (0, tkx B g m p, o)
  else if tkw B g m p = 18 then sNam B g m (tkx B g m p) (c 1) (nm 1) o
  else if tkw B g m p = 19 then sNam B g m (tkx B g m p) (c 0) (nm 0) o
  else sCmp B g m (tkx B g m p) o
def sOne (c : Nat → Nat) (nm : Nat → Nat → Nat) : Nat → Nat → Nat → SR
  | 0, p, _ => if sBeg B g m p then sf 4 (tka B g m p) else sf 1 (tka B g m p)
  | d + 1, p, o => if ¬ sBeg B g m p then sf 1 (tka B g m p) else if o = 20 then sf 4 (tka B g m p) else sIn B g m c nm (sOne c nm d) p (o + 1)
def sAll (c : Nat → Nat) (nm : Nat → Nat → Nat) : SR :=
  if (sCond B g m (sOne B g m c nm 8) 0 0).1 = 0 then
    (if tkd B g m (sCond B g m (sOne B g m c nm 8) 0 0).2.1 = 0 then sCond B g m (sOne B g m c nm 8) 0 0 else sf 1 (tka B g m (sCond B g m (sOne B g m c nm 8) 0 0).2.1))
  else sCond B g m (sOne B g m c nm 8) 0 0
end SSpec
def sPl (B : Nat → Nat) (g m : Nat) (c : Nat → Nat) (nm : Nat → Nat → Nat) (w p o : Nat) : SR := if w < 18 then (0, p, o) else if w = 18 then sNam B g m p (c 1) (nm 1) o else if w = 19 then sNam B g m p (c 0) (nm 0) o else sCmp B g m p o
def sAns (r : SR) : Int32 := if r.1 = 0 then nI r.2.2 else -1 - nI r.2.1
/-! each ONE counts -/
def sPr (one : Nat → Nat → SR) : Prop := ∀ p o q u, o ≤ 20 → one p o = (0, q, u) → o < u ∧ u ≤ 20
section SLem
variable {B : Nat → Nat} {g m : Nat} {one : Nat → Nat → SR} {c : Nat → Nat} {nm : Nat → Nat → Nat} {p q o u f a d : Nat}
theorem sf_ne (hf : 1 ≤ f) : ¬ (sf f a).1 = 0 := show ¬ f = 0 by omega
theorem sLoop_w (hp : sPr one) : ∀ (n p o q u : Nat), o ≤ 20 → sLoop B g m one n p o = (0, q, u) → o ≤ u ∧ u ≤ 20
  | 0, p, o, q, u, ho, h => by
    have h1 : ((0, p, o) : SR) = (0, q, u) := h
    have h2 := congrArg (fun x : SR => x.2.2) h1
    have h3 : o = u := h2
    omega
  | n + 1, p, o, q, u, ho, h => by
    have h : (if sJn B g m p then (if (one (tkx B g m p) o).1 = 0 then sLoop B g m one n (one (tkx B g m p) o).2.1 (one (tkx B g m p) o).2.2 else one (tkx B g m p) o) else (0, p, o)) = (0, q, u) := h
    by_cases hj : sJn B g m p
    · rw [if_pos hj] at h
      by_cases h0 : (one (tkx B g m p) o).1 = 0
      · rw [if_pos h0] at h
        have e : one (tkx B g m p) o = (0, (one (tkx B g m p) o).2.1, (one (tkx B g m p) o).2.2) := by rw [← h0]
        have h1 := hp _ _ _ _ ho e
        have h2 := sLoop_w hp n _ _ _ _ h1.2 h
        omega
      · rw [if_neg h0] at h
        exact absurd (by rw [h]) h0
    · rw [if_neg hj] at h
      have h3 : o = u := congrArg (fun x : SR => x.2.2) h
      omega
theorem sLoop_fu (hp : sPr one) : ∀ (n k p o : Nat), o ≤ 20 → 21 - o ≤ n → 21 - o ≤ k → sLoop B g m one n p o = sLoop B g m one k p o
  | 0, k, p, o, ho, h1, _ => absurd h1 (by omega)
  | n + 1, 0, p, o, ho, _, h2 => absurd h2 (by omega)
  | n + 1, k + 1, p, o, ho, h1, h2 => by
    show (if sJn B g m p then (if (one (tkx B g m p) o).1 = 0 then sLoop B g m one n (one (tkx B g m p) o).2.1 (one (tkx B g m p) o).2.2 else one (tkx B g m p) o) else (0, p, o)) = (if sJn B g m p then (if (one (tkx B g m p) o).1 = 0 then sLoop B g m one k (one (tkx B g m p) o).2.1 (one (tkx B g m p) o).2.2 else one (tkx B g m p) o) else (0, p, o))
    by_cases hj : sJn B g m p
    · rw [if_pos hj, if_pos hj]
      by_cases h0 : (one (tkx B g m p) o).1 = 0
      · rw [if_pos h0, if_pos h0]
        have e : one (tkx B g m p) o = (0, (one (tkx B g m p) o).2.1, (one (tkx B g m p) o).2.2) := by rw [← h0]
        have h3 := hp _ _ _ _ ho e
        exact sLoop_fu hp n k _ _ h3.2 (by omega) (by omega)
      · rw [if_neg h0, if_neg h0]
    · rw [if_neg hj, if_neg hj]
theorem sL_n (hj : ¬ sJn B g m p) : sLoop B g m one 21 p o = (0, p, o) := by
  show (if sJn B g m p then _ else (0, p, o)) = _
  rw [if_neg hj]
theorem sL_y (hp : sPr one) (ho : o ≤ 20) (hj : sJn B g m p) (e : one (tkx B g m p) o = (0, q, u)) : sLoop B g m one 21 p o = sLoop B g m one 21 q u := by
  have h1 := hp _ _ _ _ ho e
  have h2 : sLoop B g m one 21 p o = sLoop B g m one 20 q u := by
    show (if sJn B g m p then (if (one (tkx B g m p) o).1 = 0 then sLoop B g m one 20 (one (tkx B g m p) o).2.1 (one (tkx B g m p) o).2.2 else one (tkx B g m p) o) else (0, p, o)) = _
    rw [if_pos hj, e, if_pos rfl]
  rw [h2]
  exact sLoop_fu hp 20 21 q u h1.2 (by omega) (by omega)
theorem sL_f (hj : sJn B g m p) (e : one (tkx B g m p) o = sf f a) (hf : 1 ≤ f) : sLoop B g m one 21 p o = sf f a := by
  show (if sJn B g m p then (if (one (tkx B g m p) o).1 = 0 then sLoop B g m one 20 (one (tkx B g m p) o).2.1 (one (tkx B g m p) o).2.2 else one (tkx B g m p) o) else (0, p, o)) = _
  rw [if_pos hj, e, if_neg (sf_ne hf)]
theorem sC_y (e : one p o = (0, q, u)) : sCond B g m one p o = sLoop B g m one 21 q u := by
  unfold sCond; rw [e, if_pos rfl]
theorem sC_f (e : one p o = sf f a) (hf : 1 ≤ f) : sCond B g m one p o = sf f a := by
  unfold sCond; rw [e, if_neg (sf_ne hf)]
theorem sL_c (hp : sPr one) (ho : o ≤ 20) (hj : sJn B g m p) : sLoop B g m one 21 p o = sCond B g m one (tkx B g m p) o := by
  by_cases h0 : (one (tkx B g m p) o).1 = 0
  · have e : one (tkx B g m p) o = (0, (one (tkx B g m p) o).2.1, (one (tkx B g m p) o).2.2) := by rw [← h0]
    rw [sC_y e]; exact sL_y hp ho hj e
  · unfold sCond; rw [if_neg h0]
    show (if sJn B g m p then (if (one (tkx B g m p) o).1 = 0 then sLoop B g m one 20 (one (tkx B g m p) o).2.1 (one (tkx B g m p) o).2.2 else one (tkx B g m p) o) else (0, p, o)) = _
    rw [if_pos hj, if_neg h0]
theorem sC_w (hp : sPr one) (ho : o ≤ 20) (e : sCond B g m one p o = (0, q, u)) : o < u ∧ u ≤ 20 := by
  unfold sCond at e
  by_cases h0 : (one p o).1 = 0
  · rw [if_pos h0] at e
    have e1 : one p o = (0, (one p o).2.1, (one p o).2.2) := by rw [← h0]
    have h1 := hp _ _ _ _ ho e1
    have h2 := sLoop_w hp 21 _ _ _ _ h1.2 e
    omega
  · rw [if_neg h0] at e
    exact absurd (by rw [e]) h0
theorem sr_o {x y z : Nat} (e : ((0, x, y) : SR) = (0, q, u)) : x = q ∧ y = u := ⟨congrArg (fun x : SR => x.2.1) e, congrArg (fun x : SR => x.2.2) e⟩
theorem sr_f {x : Nat} (hf : 1 ≤ f) (e : sf f x = (0, q, u)) : False := sf_ne hf (congrArg (fun x : SR => x.1) e)
theorem sIn_w (hp : sPr one) (ho : o ≤ 20) (e : sIn B g m c nm one p o = (0, q, u)) : o ≤ u ∧ u ≤ 20 := by
  unfold sIn at e
  by_cases h1 : tkd B g m p = 4 ∧ tkv B g p = 40
  · rw [if_pos h1] at e
    unfold sBra at e
    by_cases h0 : (sCond B g m one (tkx B g m p) o).1 = 0
    · rw [if_pos h0] at e
      have e1 : sCond B g m one (tkx B g m p) o = (0, (sCond B g m one (tkx B g m p) o).2.1, (sCond B g m one (tkx B g m p) o).2.2) := by rw [← h0]
      have h2 := sC_w hp ho e1
      by_cases h3 : tkd B g m (sCond B g m one (tkx B g m p) o).2.1 = 4 ∧ tkv B g (sCond B g m one (tkx B g m p) o).2.1 = 41
      · rw [if_pos h3] at e
        have h4 := (sr_o (z := 0) e).2
        omega
      · rw [if_neg h3] at e
        exact (sr_f (by omega) e).elim
    · rw [if_neg h0] at e
      exact absurd (by rw [e]) h0
  rw [if_neg h1] at e
  by_cases h2 : tkw B g m p = 15
  · rw [if_pos h2] at e
    have := hp _ _ _ _ ho e
    omega
  rw [if_neg h2] at e
  by_cases h3 : tkw B g m p < 18
  · rw [if_pos h3] at e
    have := (sr_o (z := 0) e).2
    omega
  rw [if_neg h3] at e
  have hn : ∀ (x n : Nat) (t : Nat → Nat), sNam B g m x n t o = (0, q, u) → o ≤ u ∧ u ≤ 20 := fun x n t e => by
    have := sOf_w e
    omega
  by_cases h4 : tkw B g m p = 18
  · rw [if_pos h4] at e; exact hn _ _ _ e
  rw [if_neg h4] at e
  by_cases h5 : tkw B g m p = 19
  · rw [if_pos h5] at e; exact hn _ _ _ e
  rw [if_neg h5] at e
  unfold sCmp at e
  by_cases h6 : ¬ (tkd B g m (tkx B g m p) = 4 ∧ (tkv B g (tkx B g m p) = 60 ∨ tkv B g (tkx B g m p) = 61 ∨ tkv B g (tkx B g m p) = 62))
  · rw [if_pos h6] at e; exact (sr_f (by omega) e).elim
  rw [if_neg h6] at e
  have := sOf_w e
  omega
theorem sOne_pr : ∀ d, sPr (sOne B g m c nm d)
  | 0, p, o, q, u, _, e => by
    have e : (if sBeg B g m p then sf 4 (tka B g m p) else sf 1 (tka B g m p)) = (0, q, u) := e
    by_cases h : sBeg B g m p
    · rw [if_pos h] at e; exact (sr_f (by omega) e).elim
    · rw [if_neg h] at e; exact (sr_f (by omega) e).elim
  | d + 1, p, o, q, u, ho, e => by
    have e : (if ¬ sBeg B g m p then sf 1 (tka B g m p) else if o = 20 then sf 4 (tka B g m p) else sIn B g m c nm (sOne B g m c nm d) p (o + 1)) = (0, q, u) := e
    by_cases h : ¬ sBeg B g m p
    · rw [if_pos h] at e; exact (sr_f (by omega) e).elim
    · rw [if_neg h] at e
      by_cases h2 : o = 20
      · rw [if_pos h2] at e; exact (sr_f (by omega) e).elim
      · rw [if_neg h2] at e
        have := sIn_w (sOne_pr d) (by omega) e
        omega
theorem sO_1 (h : ¬ sBeg B g m p) : sOne B g m c nm d p o = sf 1 (tka B g m p) := by
  cases d with
  | zero => show (if sBeg B g m p then sf 4 (tka B g m p) else sf 1 (tka B g m p)) = _; rw [if_neg h]
  | succ d => show (if ¬ sBeg B g m p then sf 1 (tka B g m p) else _) = _; rw [if_pos h]
theorem sO_4 (h : sBeg B g m p) (hd : d = 0 ∨ o = 20) : sOne B g m c nm d p o = sf 4 (tka B g m p) := by
  cases d with
  | zero => show (if sBeg B g m p then sf 4 (tka B g m p) else sf 1 (tka B g m p)) = _; rw [if_pos h]
  | succ d => show (if ¬ sBeg B g m p then sf 1 (tka B g m p) else if o = 20 then sf 4 (tka B g m p) else _) = _; rw [if_neg (fun hh => hh h), if_pos (by omega)]
theorem sO_i (h : sBeg B g m p) (ho : ¬ o = 20) : sOne B g m c nm (d + 1) p o = sIn B g m c nm (sOne B g m c nm d) p (o + 1) := by
  show (if ¬ sBeg B g m p then sf 1 (tka B g m p) else if o = 20 then sf 4 (tka B g m p) else _) = _
  rw [if_neg (fun hh => hh h), if_neg ho]
theorem sIn_b (h : tkd B g m p = 4 ∧ tkv B g p = 40) : sIn B g m c nm one p o = sBra B g m (sCond B g m one (tkx B g m p) o) := by
  unfold sIn; rw [if_pos h]
theorem sIn_n (h0 : ¬ (tkd B g m p = 4 ∧ tkv B g p = 40)) (h : tkw B g m p = 15) : sIn B g m c nm one p o = one (tkx B g m p) o := by
  unfold sIn; rw [if_neg h0, if_pos h]
theorem sIn_o (h0 : ¬ (tkd B g m p = 4 ∧ tkv B g p = 40)) (h : 16 ≤ tkw B g m p ∧ tkw B g m p ≤ 17) : sIn B g m c nm one p o = (0, tkx B g m p, o) := by
  unfold sIn; rw [if_neg h0, if_neg (by omega), if_pos (by omega)]
theorem sIn_m (h0 : ¬ (tkd B g m p = 4 ∧ tkv B g p = 40)) (h : tkw B g m p = 18) : sIn B g m c nm one p o = sNam B g m (tkx B g m p) (c 1) (nm 1) o := by
  unfold sIn; rw [if_neg h0, if_neg (by omega), if_neg (by omega), if_pos h]
theorem sIn_a (h0 : ¬ (tkd B g m p = 4 ∧ tkv B g p = 40)) (h : tkw B g m p = 19) : sIn B g m c nm one p o = sNam B g m (tkx B g m p) (c 0) (nm 0) o := by
  unfold sIn; rw [if_neg h0, if_neg (by omega), if_neg (by omega), if_neg (by omega), if_pos h]
theorem sIn_c (h0 : ¬ (tkd B g m p = 4 ∧ tkv B g p = 40)) (h : 20 ≤ tkw B g m p ∧ tkw B g m p ≤ 23) : sIn B g m c nm one p o = sCmp B g m (tkx B g m p) o := by
  unfold sIn; rw [if_neg h0, if_neg (by omega), if_neg (by omega), if_neg (by omega), if_neg (by omega)]
theorem sPl_o {w : Nat} (h : w < 18) : sPl B g m c nm w p o = (0, p, o) := by
  unfold sPl; rw [if_pos h]
theorem sPl_m {w : Nat} (h : w = 18) : sPl B g m c nm w p o = sNam B g m p (c 1) (nm 1) o := by
  unfold sPl; rw [if_neg (by omega), if_pos h]
theorem sPl_a {w : Nat} (h : w = 19) : sPl B g m c nm w p o = sNam B g m p (c 0) (nm 0) o := by
  unfold sPl; rw [if_neg (by omega), if_neg (by omega), if_pos h]
theorem sPl_c {w : Nat} (h : 20 ≤ w) : sPl B g m c nm w p o = sCmp B g m p o := by
  unfold sPl; rw [if_neg (by omega), if_neg (by omega), if_neg (by omega)]
theorem sIn_p {w : Nat} (h0 : ¬ (tkd B g m p = 4 ∧ tkv B g p = 40)) (h : 16 ≤ tkw B g m p ∧ tkw B g m p ≤ 23) (e : w = tkw B g m p) : sIn B g m c nm one p o = sPl B g m c nm w (tkx B g m p) o := by
  subst e; unfold sIn sPl; rw [if_neg h0, if_neg (by omega)]
theorem sB_y {r : SR} (e : r = (0, q, u)) (h : tkd B g m q = 4 ∧ tkv B g q = 41) : sBra B g m r = (0, tkx B g m q, u) := by
  subst e; show (if (0 : Nat) = 0 then (if tkd B g m q = 4 ∧ tkv B g q = 41 then (0, tkx B g m q, u) else sf 1 (tka B g m q)) else (0, q, u)) = _
  rw [if_pos rfl, if_pos h]
theorem sB_n {r : SR} (e : r = (0, q, u)) (h : ¬ (tkd B g m q = 4 ∧ tkv B g q = 41)) : sBra B g m r = sf 1 (tka B g m q) := by
  subst e; show (if (0 : Nat) = 0 then (if tkd B g m q = 4 ∧ tkv B g q = 41 then (0, tkx B g m q, u) else sf 1 (tka B g m q)) else (0, q, u)) = _
  rw [if_pos rfl, if_neg h]
theorem sB_f {r : SR} (e : r = sf f a) (hf : 1 ≤ f) : sBra B g m r = sf f a := by
  subst e; unfold sBra; rw [if_neg (sf_ne hf)]
theorem sNam_y {n : Nat} {t : Nat → Nat} (e : ∀ k, eOne B g m p n t k = k (tkx B g m p)) : sNam B g m p n t o = (0, tkx B g m p, o) := sOf_y (e kP)
theorem sNam_f {n : Nat} {t : Nat → Nat} (e : ∀ k, eOne B g m p n t k = fl f a) (hf : 1 ≤ f) : sNam B g m p n t o = sf f a := sOf_f (e kP) hf
theorem sCmp_1 (h : ¬ (tkd B g m p = 4 ∧ (tkv B g p = 60 ∨ tkv B g p = 61 ∨ tkv B g p = 62))) : sCmp B g m p o = sf 1 (tka B g m p) := by
  unfold sCmp; rw [if_pos h]
theorem sCmp_y (h : tkd B g m p = 4 ∧ (tkv B g p = 60 ∨ tkv B g p = 61 ∨ tkv B g p = 62)) (e : ∀ k, eNum B g m (tkx B g m p) 0 999 k = k (tkx B g m (tkx B g m p)) (tkv B g (tkx B g m p))) : sCmp B g m p o = (0, tkx B g m (tkx B g m p), o) := by
  unfold sCmp; rw [if_neg (fun z => z h)]; exact sOf_y (e _)
theorem sCmp_f (h : tkd B g m p = 4 ∧ (tkv B g p = 60 ∨ tkv B g p = 61 ∨ tkv B g p = 62)) (e : ∀ k, eNum B g m (tkx B g m p) 0 999 k = fl f a) (hf : 1 ≤ f) : sCmp B g m p o = sf f a := by
  unfold sCmp; rw [if_neg (fun z => z h)]; exact sOf_f (e _) hf
theorem sA_y (e : sCond B g m (sOne B g m c nm 8) 0 0 = (0, q, u)) (h : tkd B g m q = 0) : sAll B g m c nm = (0, q, u) := by
  unfold sAll; rw [e, if_pos rfl, if_pos h]
theorem sA_n (e : sCond B g m (sOne B g m c nm 8) 0 0 = (0, q, u)) (h : ¬ tkd B g m q = 0) : sAll B g m c nm = sf 1 (tka B g m q) := by
  unfold sAll; rw [e, if_pos rfl, if_neg h]
theorem sA_f (e : sCond B g m (sOne B g m c nm 8) 0 0 = sf f a) (hf : 1 ≤ f) : sAll B g m c nm = sf f a := by
  unfold sAll; rw [e, if_neg (sf_ne hf)]
end SLem
theorem sAns_f {f a : Nat} (hf : 1 ≤ f) : sAns (sf f a) = -1 - nI a := by
  show (if f = 0 then nI 0 else -1 - nI a) = _
  rw [if_neg (by omega)]
theorem sAns_0 {q u : Nat} : sAns (0, q, u) = nI u := by
  show (if 0 = 0 then nI u else -1 - nI q) = _
  rw [if_pos rfl]
