/-! what the park's text says, read line by line: a fault and its place, or where it goes on, how many there are, their names -/
abbrev PR := Nat × Nat × (Nat → Nat) × (Nat → Nat → Nat)
def fl (f a : Nat) : PR := (f, a, fun _ => 0, fun _ _ => 0)
def uN (c : Nat → Nat) (k v : Nat) : Nat → Nat := fun j => if j = k then v else c j
def uM (nm : Nat → Nat → Nat) (a i v : Nat) : Nat → Nat → Nat := fun b => if b = a then uN (nm b) i v else nm b
def knw (f : Nat → Nat) (x : Nat) : Nat → Bool
  | 0 => false
  | n + 1 => knw f x n || decide (f n = x)
theorem knw_t {f : Nat → Nat} {x : Nat} : ∀ (n i : Nat), i < n → f i = x → knw f x n = true
  | 0, i, h, _ => absurd h (Nat.not_lt_zero i)
  | n + 1, i, h, e => by
    show (knw f x n || decide (f n = x)) = true
    by_cases hi : i = n
    · subst hi; rw [decide_eq_true e, Bool.or_true]
    · rw [knw_t n i (by omega) e, Bool.true_or]
theorem knw_f {f : Nat → Nat} {x : Nat} : ∀ (n : Nat), (∀ i, i < n → ¬ f i = x) → knw f x n = false
  | 0, _ => rfl
  | n + 1, h => by
    show (knw f x n || decide (f n = x)) = false
    rw [knw_f n (fun i hi => h i (by omega)), decide_eq_false (h n (by omega)), Bool.or_false]
def kna (c : Nat → Nat) (nm : Nat → Nat → Nat) (x : Nat) : Bool := knw (nm 0) x (c 0) || knw (nm 1) x (c 1) || knw (nm 2) x (c 2)
section PSpec
variable (B : Nat → Nat) (g m : Nat)
def eNew (p : Nat) (c : Nat → Nat) (nm : Nat → Nat → Nat) (k : Nat → Nat → PR) : PR :=
  if ¬ tkw B g m p = 24 then fl 1 (tka B g m p) else if kna c nm (tkc B g p) = true then fl 3 (tka B g m p) else k (tkx B g m p) (tkc B g p)
def eOne (p n : Nat) (f : Nat → Nat) (k : Nat → PR) : PR :=
  if ¬ tkw B g m p = 24 then fl 1 (tka B g m p) else if knw f (tkc B g p) n = false then fl 3 (tka B g m p) else k (tkx B g m p)
def eNum (p a b : Nat) (k : Nat → Nat → PR) : PR :=
  if ¬ tkd B g m p = 3 then fl 1 (tka B g m p) else if tkv B g p < a ∨ b < tkv B g p then fl 2 (tka B g m p) else k (tkx B g m p) (tkv B g p)
def eEnd (p : Nat) (k : Nat → PR) : PR :=
  if ¬ (tkd B g m p = 4 ∧ tkv B g p = 59) then fl 1 (tka B g m p) else k (tkx B g m p)
def lPlace (p : Nat) (c : Nat → Nat) (nm : Nat → Nat → Nat) : PR :=
  if c 0 = 5 then fl 4 (tka B g m p) else eNew B g m (tkx B g m p) c nm (fun p1 x =>
    if tkw B g m p1 = 1 then eEnd B g m (tkx B g m p1) (fun p2 => (0, p2, uN c 0 (c 0 + 1), uM nm 0 (c 0) x))
    else eEnd B g m p1 (fun p2 => (0, p2, uN c 0 (c 0 + 1), uM nm 0 (c 0) x)))
def lPerson (p : Nat) (c : Nat → Nat) (nm : Nat → Nat → Nat) : PR :=
  if c 1 = 8 then fl 4 (tka B g m p) else eNew B g m (tkx B g m p) c nm (fun p1 x => eOne B g m p1 (c 0) (nm 0) (fun p2 =>
    eNum B g m p2 0 23 (fun p3 v => eNum B g m p3 v 23 (fun p4 _ => eNum B g m p4 0 30 (fun p5 _ =>
      eEnd B g m p5 (fun p6 => (0, p6, uN c 1 (c 1 + 1), uM nm 1 (c 1) x)))))))
def lDog (p : Nat) (c : Nat → Nat) (nm : Nat → Nat → Nat) : PR :=
  if c 2 = 6 then fl 4 (tka B g m p) else eNew B g m (tkx B g m p) c nm (fun p1 x => eOne B g m p1 (c 1) (nm 1) (fun p2 =>
    eNum B g m p2 0 12 (fun p3 _ => eNum B g m p3 0 12 (fun p4 _ =>
      eEnd B g m p4 (fun p5 => (0, p5, uN c 2 (c 2 + 1), uM nm 2 (c 2) x))))))
def lFree (p : Nat) (c : Nat → Nat) (nm : Nat → Nat → Nat) : PR :=
  if c 3 = 12 then fl 4 (tka B g m p) else eOne B g m (tkx B g m p) (c 0) (nm 0) (fun p1 =>
    eNum B g m p1 0 23 (fun p2 v => eNum B g m p2 v 23 (fun p3 _ =>
      eEnd B g m p3 (fun p4 => (0, p4, uN c 3 (c 3 + 1), nm)))))
def lSign (p : Nat) (c : Nat → Nat) (nm : Nat → Nat → Nat) : PR :=
  if c 4 = 1 then fl 3 (tka B g m p) else eNum B g m (tkx B g m p) 0 12 (fun p1 _ =>
      eEnd B g m p1 (fun p2 => (0, p2, uN c 4 1, nm)))
def lAny (p : Nat) (c : Nat → Nat) (nm : Nat → Nat → Nat) : PR :=
  if tkw B g m p = 0 then lPlace B g m p c nm else if tkw B g m p = 2 then lPerson B g m p c nm
  else if tkw B g m p = 3 then lDog B g m p c nm else if tkw B g m p = 4 then lFree B g m p c nm
  else if tkw B g m p = 5 then lSign B g m p c nm else fl 1 (tka B g m p)
def pAll : Nat → Nat → (Nat → Nat) → (Nat → Nat → Nat) → Nat → PR × Nat
  | 0, _, _, _, _ => (fl 9 0, 0)
  | n + 1, p, c, nm, l => if tkd B g m p = 0 then ((0, p, c, nm), l)
    else if (lAny B g m p c nm).1 = 0 then pAll n (lAny B g m p c nm).2.1 (lAny B g m p c nm).2.2.1 (lAny B g m p c nm).2.2.2 (l + 1)
    else (lAny B g m p c nm, 0)
end PSpec
/-! the park's answer: all lines, or -1 and the place of the fault -/
def pAns (r : PR × Nat) : Int32 := if r.1.1 = 0 then nI r.2 else -1 - nI r.1.2.1
/-! the reference's tape, its token, its tables -/
def MBt (B : Nat → Nat) (g m : Nat) (st : Nat → Nat → Int32) : Prop := st 0 3 = nI g ∧ st 0 4 = nI m ∧ g < 941 ∧ m < 941 ∧ ∀ j, j < g → st 1 j = nI (B j) ∧ B j < 256
def dm (n r k : Nat) : Bool := (r == 0 && (k == 5 || k == 6 || k == 7 || k == 8 || k == 9 || k == 12)) || (decide (2 ≤ n) && (r == 0 && (k == 10 || k == 11 || k == 13))) || (decide (3 ≤ n) && r == 8) || (decide (4 ≤ n) && (r == 3 || (r == 0 && k == 24))) || (decide (5 ≤ n) && (r == 16 || (r == 0 && (k == 43 || k == 46)))) || (decide (6 ≤ n) && (r == 0 && (k == 44 || k == 45))) || (decide (7 ≤ n) && (r == 14 || (r == 0 && k == 40)))
def FM (n : Nat) (st : Nat → Nat → Int32) (sl : Nat → Nat → Int64) (st' : Nat → Nat → Int32) (sl' : Nat → Nat → Int64) : Prop := ∀ r k, dm n r k = false → st' r k = st r k ∧ sl' r k = sl r k
theorem dm_mono {n n' r k : Nat} (h : n ≤ n') (hd : dm n' r k = false) : dm n r k = false := by
  unfold dm at hd ⊢
  simp only [Bool.or_eq_false_iff, Bool.and_eq_false_iff, decide_eq_false_iff_not] at hd ⊢
  obtain ⟨⟨⟨⟨⟨⟨h1, h2⟩, h3⟩, h4⟩, h5⟩, h6⟩, h7⟩ := hd
  refine ⟨⟨⟨⟨⟨⟨h1, ?_⟩, ?_⟩, ?_⟩, ?_⟩, ?_⟩, ?_⟩
  · rcases h2 with h2 | h2
    · exact Or.inl (by omega)
    · exact Or.inr h2
  · rcases h3 with h3 | h3
    · exact Or.inl (by omega)
    · exact Or.inr h3
  · rcases h4 with h4 | h4
    · exact Or.inl (by omega)
    · exact Or.inr h4
  · rcases h5 with h5 | h5
    · exact Or.inl (by omega)
    · exact Or.inr h5
  · rcases h6 with h6 | h6
    · exact Or.inl (by omega)
    · exact Or.inr h6
  · rcases h7 with h7 | h7
    · exact Or.inl (by omega)
    · exact Or.inr h7
theorem FM.rf {n : Nat} {st : Nat → Nat → Int32} {sl : Nat → Nat → Int64} : FM n st sl st sl := fun _ _ _ => ⟨rfl, rfl⟩
theorem FM.up {n : Nat} {st st' : Nat → Nat → Int32} {sl sl' : Nat → Nat → Int64} (h : FM n st sl st' sl') {r k : Nat} {v : Int32} (hd : dm n r k = true) : FM n st sl (up2 st' r k v) sl' := fun a j ha => by
  refine ⟨?_, (h a j ha).2⟩
  rw [up2_ne st' v (fun e => by rw [e.1, e.2] at ha; rw [ha] at hd; exact absurd hd (by decide))]
  exact (h a j ha).1
theorem FM.upL {n : Nat} {st st' : Nat → Nat → Int32} {sl sl' : Nat → Nat → Int64} (h : FM n st sl st' sl') {r k : Nat} {v : Int64} (hd : dm n r k = true) : FM n st sl st' (upL sl' r k v) := fun a j ha => by
  refine ⟨(h a j ha).1, ?_⟩
  rw [upL_ne sl' v (fun e => by rw [e.1, e.2] at ha; rw [ha] at hd; exact absurd hd (by decide))]
  exact (h a j ha).2
theorem FM.tr {n a b : Nat} {st st1 st2 : Nat → Nat → Int32} {sl sl1 sl2 : Nat → Nat → Int64} (h1 : FM a st sl st1 sl1) (h2 : FM b st1 sl1 st2 sl2) (ha : a ≤ n) (hb : b ≤ n) : FM n st sl st2 sl2 := fun r k hd => ⟨((h2 r k (dm_mono hb hd)).1).trans (h1 r k (dm_mono ha hd)).1, ((h2 r k (dm_mono hb hd)).2).trans (h1 r k (dm_mono ha hd)).2⟩
theorem dm_tape (n j : Nat) : dm n 1 j = false := by
  unfold dm; simp
theorem dm_size (n : Nat) : dm n 0 3 = false ∧ dm n 0 4 = false ∧ dm n 0 2 = false := by
  unfold dm; simp
theorem MBt.fr {B : Nat → Nat} {g m n : Nat} {st st' : Nat → Nat → Int32} {sl sl' : Nat → Nat → Int64} (h : MBt B g m st) (hF : FM n st sl st' sl') : MBt B g m st' :=
  ⟨((hF 0 3 (dm_size n).1).1).trans h.1, ((hF 0 4 (dm_size n).2.1).1).trans h.2.1, h.2.2.1, h.2.2.2.1, fun j hj => ⟨((hF 1 j (dm_tape n j)).1).trans (h.2.2.2.2 j hj).1, (h.2.2.2.2 j hj).2⟩⟩
def TM (B : Nat → Nat) (g m p : Nat) (st : Nat → Nat → Int32) (sl : Nat → Nat → Int64) : Prop :=
  st 0 5 = nI (tkx B g m p) ∧ st 0 6 = nI (tka B g m p) ∧ st 0 7 = nI (tkd B g m p) ∧ (tkd B g m p = 3 → st 0 8 = nI (tkv B g p)) ∧ (tkd B g m p = 4 → st 0 9 = nI (tkv B g p)) ∧ (tkd B g m p = 2 → sl 0 12 = lN (c7 7 (tkc B g p))) ∧ p ≤ g
theorem TM.up {B : Nat → Nat} {g m p : Nat} {st : Nat → Nat → Int32} {sl : Nat → Nat → Int64} (h : TM B g m p st sl) {r k : Nat} {v : Int32} (hd : ¬ (r = 0 ∧ 5 ≤ k ∧ k ≤ 9)) : TM B g m p (up2 st r k v) sl := by
  have e : ∀ j, 5 ≤ j → j ≤ 9 → up2 st r k v 0 j = st 0 j := fun j h1 h2 => up2_ne st v (by omega)
  obtain ⟨a1, a2, a3, a4, a5, a6, a7⟩ := h
  exact ⟨(e 5 (by omega) (by omega)).trans a1, (e 6 (by omega) (by omega)).trans a2, (e 7 (by omega) (by omega)).trans a3, fun z => (e 8 (by omega) (by omega)).trans (a4 z), fun z => (e 9 (by omega) (by omega)).trans (a5 z), a6, a7⟩
theorem TM.upL {B : Nat → Nat} {g m p : Nat} {st : Nat → Nat → Int32} {sl : Nat → Nat → Int64} (h : TM B g m p st sl) {r k : Nat} {v : Int64} (hd : ¬ (r = 0 ∧ k = 12)) : TM B g m p st (upL sl r k v) := by
  obtain ⟨a1, a2, a3, a4, a5, a6, a7⟩ := h
  exact ⟨a1, a2, a3, a4, a5, fun z => (upL_ne sl v (by omega)).trans (a6 z), a7⟩
theorem TM.lim {B : Nat → Nat} {g m p : Nat} {st : Nat → Nat → Int32} {sl : Nat → Nat → Int64} (hp : p ≤ g) (h : m < g ∧ m ≤ tkq B g p) (h5 : st 0 5 = nI (tkq B g p)) (h6 : st 0 6 = nI m) (h7 : st 0 7 = nI 1) : TM B g m p st sl := by
  have d : tkd B g m p = 1 := by unfold tkd; rw [if_pos h]
  have x : tkx B g m p = tkq B g p := by unfold tkx; rw [if_pos h]
  have a : tka B g m p = m := by unfold tka; rw [if_pos h]
  exact ⟨by rw [x]; exact h5, by rw [a]; exact h6, by rw [d]; exact h7, fun z => absurd z (by omega), fun z => absurd z (by omega), fun z => absurd z (by omega), hp⟩
theorem TM.stop {B : Nat → Nat} {g m p : Nat} {st : Nat → Nat → Int32} {sl : Nat → Nat → Int64} (hp : p ≤ g) (h : ¬ (m < g ∧ m ≤ tkq B g p)) (h2 : g ≤ tkq B g p) (h5 : st 0 5 = nI (tkq B g p)) (h6 : st 0 6 = nI (tkq B g p)) (h7 : st 0 7 = nI 0) : TM B g m p st sl := by
  have d : tkd B g m p = 0 := by unfold tkd; rw [if_neg h, if_pos h2]
  have x : tkx B g m p = tkq B g p := by unfold tkx; rw [if_neg h, if_pos h2]
  have a : tka B g m p = tkq B g p := by unfold tka; rw [if_neg h]
  exact ⟨by rw [x]; exact h5, by rw [a]; exact h6, by rw [d]; exact h7, fun z => absurd z (by omega), fun z => absurd z (by omega), fun z => absurd z (by omega), hp⟩
theorem TM.sign {B : Nat → Nat} {g m p : Nat} {st : Nat → Nat → Int32} {sl : Nat → Nat → Int64} (hp : p ≤ g) (h : ¬ (m < g ∧ m ≤ tkq B g p)) (h2 : ¬ g ≤ tkq B g p) (h3 : ¬ (qL (B (tkq B g p)) ∨ qD (B (tkq B g p)))) (k : Nat) (hk : (k = 4 ∧ qM (B (tkq B g p))) ∨ (k = 1 ∧ ¬ qM (B (tkq B g p)))) (h5 : st 0 5 = nI (tkq B g p + 1)) (h6 : st 0 6 = nI (tkq B g p)) (h7 : st 0 7 = nI k) (h9 : st 0 9 = nI (B (tkq B g p))) : TM B g m p st sl := by
  have d : tkd B g m p = k := by
    unfold tkd; rw [if_neg h, if_neg h2, if_neg h3]
    rcases hk with ⟨rfl, c⟩ | ⟨rfl, c⟩
    · rw [if_pos c]
    · rw [if_neg c]
  have x : tkx B g m p = tkq B g p + 1 := by unfold tkx; rw [if_neg h, if_neg h2, if_neg h3]
  have a : tka B g m p = tkq B g p := by unfold tka; rw [if_neg h]
  have v : tkv B g p = B (tkq B g p) := by unfold tkv; rw [if_neg h3]
  have k12 : k = 4 ∨ k = 1 := by rcases hk with ⟨q, -⟩ | ⟨q, -⟩ <;> omega
  exact ⟨by rw [x]; exact h5, by rw [a]; exact h6, by rw [d]; exact h7, fun z => absurd z (by omega), fun _ => by rw [v]; exact h9, fun z => absurd z (by omega), hp⟩
theorem TM.run {B : Nat → Nat} {g m p : Nat} {st : Nat → Nat → Int32} {sl : Nat → Nat → Int64} (hp : p ≤ g) (hg : g < 941) (h : ¬ (m < g ∧ m ≤ tkq B g p)) (h2 : ¬ g ≤ tkq B g p) (h3 : qL (B (tkq B g p)) ∨ qD (B (tkq B g p))) (k : Nat) (hk : (k = 2 ∧ cnL B (tkq B g p) (tkn B g p) = tkn B g p ∧ tkn B g p ≤ 7) ∨ (k = 3 ∧ cnL B (tkq B g p) (tkn B g p) = 0 ∧ tkn B g p ≤ 3) ∨ (k = 1 ∧ ¬ (cnL B (tkq B g p) (tkn B g p) = tkn B g p ∧ tkn B g p ≤ 7) ∧ ¬ (cnL B (tkq B g p) (tkn B g p) = 0 ∧ tkn B g p ≤ 3))) (h5 : st 0 5 = nI (tke B g p)) (h6 : st 0 6 = nI (tkq B g p)) (h7 : st 0 7 = nI k) (h8 : k = 3 → st 0 8 = nI (nmb B (tkq B g p) (tkn B g p))) (h12 : k = 2 → sl 0 12 = lN (cd7 B (tkq B g p) (tkn B g p))) : TM B g m p st sl := by
  have hn := tkn_pos (B := B) (g := g) (p := p) (by omega) hg h2 h3
  have d : tkd B g m p = k := by
    unfold tkd; rw [if_neg h, if_neg h2, if_pos h3]
    rcases hk with ⟨rfl, c⟩ | ⟨rfl, c⟩ | ⟨rfl, c, c2⟩
    · rw [if_pos c]
    · rw [if_neg (by omega), if_pos c]
    · rw [if_neg c, if_neg c2]
  have x : tkx B g m p = tke B g p := by unfold tkx; rw [if_neg h, if_neg h2, if_pos h3]
  have a : tka B g m p = tkq B g p := by unfold tka; rw [if_neg h]
  have v : tkv B g p = nmb B (tkq B g p) (tkn B g p) := by unfold tkv; rw [if_pos h3]
  have k3 : k = 2 ∨ k = 3 ∨ k = 1 := by rcases hk with ⟨q, -⟩ | ⟨q, -⟩ | ⟨q, -⟩ <;> omega
  refine ⟨by rw [x]; exact h5, by rw [a]; exact h6, by rw [d]; exact h7, fun z => by rw [v]; exact h8 (by omega), fun z => absurd z (by omega), fun z => ?_, hp⟩
  have k2 : k = 2 := by omega
  rcases hk with ⟨-, c⟩ | ⟨q, -⟩ | ⟨q, -⟩
  · rw [h12 k2]; unfold tkc; rw [c7_cd _ 7 c.2 (cnL_all _ c.1)]
  · omega
  · omega
