/-! the class's tape, its token, its tables -/
theorem sbt_v (n : Nat) : sbt n = (nI n).toInt8.toInt32 := vp_nar_byte (nI n)
theorem sbt_c : ∀ n, n < 256 → (sbt n = 32 ↔ n = 32) ∧ (sbt n = 10 ↔ n = 10) ∧ (sbt n = 59 ↔ n = 59) ∧ (sbt n = 60 ↔ n = 60) ∧ (sbt n = 61 ↔ n = 61) ∧ (sbt n = 62 ↔ n = 62) ∧ (sbt n = 40 ↔ n = 40) ∧ (sbt n = 41 ↔ n = 41) := by
  simp only [sbt_v]
  decide +kernel
theorem sbt_L : ∀ n, n < 256 → ((97 ≤ sbt n ∧ sbt n ≤ 122) ↔ (97 ≤ n ∧ n ≤ 122)) := by
  simp only [sbt_v]
  decide +kernel
theorem sbt_D : ∀ n, n < 256 → ((48 ≤ sbt n ∧ sbt n ≤ 57) ↔ (48 ≤ n ∧ n ≤ 57)) := by
  simp only [sbt_v]
  decide +kernel
theorem sbt_n : ∀ n, n < 256 → n < 128 → sbt n = nI n := by
  simp only [sbt_v]
  decide +kernel
def CBt (B : Nat → Nat) (g m : Nat) (st : Nat → Nat → Int32) : Prop := st 1 1 = nI g ∧ st 1 2 = nI m ∧ g < 941 ∧ m < 941 ∧ ∀ j, j < g → st 2 j = sbt (B j) ∧ B j < 256
def dc (n r k : Nat) : Bool := (r == 1 && (k == 3 || k == 4 || k == 5 || k == 6 || k == 7 || k == 8)) || (decide (2 ≤ n) && (r == 1 && (k == 9 || k == 13 || k == 14))) || (decide (3 ≤ n) && (r == 1 && (k == 10 || k == 11 || k == 12))) || (decide (4 ≤ n) && (r == 3 || (decide (56 ≤ r) && decide (r < 76)))) || (decide (5 ≤ n) && (decide (24 ≤ r) && decide (r < 28))) || (decide (6 ≤ n) && (decide (4 ≤ r) && decide (r < 10)))
def FX (n : Nat) (st : Nat → Nat → Int32) (sl : Nat → Nat → Int64) (so : Nat → XR) (st' : Nat → Nat → Int32) (sl' : Nat → Nat → Int64) (so' : Nat → XR) : Prop := ∀ r k, dc n r k = false → st' r k = st r k ∧ sl' r k = sl r k ∧ so' r k = so r k
theorem dc_mono {n n' r k : Nat} (h : n ≤ n') (hd : dc n' r k = false) : dc n r k = false := by
  unfold dc at hd ⊢
  simp only [Bool.or_eq_false_iff, Bool.and_eq_false_iff, decide_eq_false_iff_not] at hd ⊢
  obtain ⟨⟨⟨⟨⟨h1, h2⟩, h3⟩, h4⟩, h5⟩, h6⟩ := hd
  refine ⟨⟨⟨⟨⟨h1, ?_⟩, ?_⟩, ?_⟩, ?_⟩, ?_⟩
  · rcases h2 with h2 | h2
    · exact Or.inl (by omega)
    · exact Or.inr h2
  · rcases h3 with h3 | h3
    · exact Or.inl (by omega)
    · exact Or.inr h3
  · rcases h4 with h4 | h4
    · exact Or.inl (by omega)
    · exact Or.inr h4
  · rcases h5 with h5 | h5
    · exact Or.inl (by omega)
    · exact Or.inr h5
  · rcases h6 with h6 | h6
    · exact Or.inl (by omega)
    · exact Or.inr h6
theorem FX.rf {n : Nat} {st : Nat → Nat → Int32} {sl : Nat → Nat → Int64} {so : Nat → XR} : FX n st sl so st sl so := fun _ _ _ => ⟨rfl, rfl, rfl⟩
theorem FX.up {n : Nat} {st st' : Nat → Nat → Int32} {sl sl' : Nat → Nat → Int64} {so so' : Nat → XR} (h : FX n st sl so st' sl' so') {r k : Nat} {v : Int32} (hd : dc n r k = true) : FX n st sl so (up2 st' r k v) sl' so' := fun a j ha => by
  refine ⟨?_, (h a j ha).2⟩
  rw [up2_ne st' v (fun e => by rw [e.1, e.2] at ha; rw [ha] at hd; exact absurd hd (by decide))]
  exact (h a j ha).1
theorem FX.upL {n : Nat} {st st' : Nat → Nat → Int32} {sl sl' : Nat → Nat → Int64} {so so' : Nat → XR} (h : FX n st sl so st' sl' so') {r k : Nat} {v : Int64} (hd : dc n r k = true) : FX n st sl so st' (upL sl' r k v) so' := fun a j ha => by
  refine ⟨(h a j ha).1, ?_, (h a j ha).2.2⟩
  rw [upL_ne sl' v (fun e => by rw [e.1, e.2] at ha; rw [ha] at hd; exact absurd hd (by decide))]
  exact (h a j ha).2.1
theorem FX.upO {n : Nat} {st st' : Nat → Nat → Int32} {sl sl' : Nat → Nat → Int64} {so so' : Nat → XR} (h : FX n st sl so st' sl' so') {r k : Nat} {v : Option Nat} (hd : dc n r k = true) : FX n st sl so st' sl' (upO so' r k v) := fun a j ha => by
  refine ⟨(h a j ha).1, (h a j ha).2.1, ?_⟩
  rw [upO_ne so' v (fun e => by rw [e.1, e.2] at ha; rw [ha] at hd; exact absurd hd (by decide))]
  exact (h a j ha).2.2
theorem FX.tr {n a b : Nat} {st st1 st2 : Nat → Nat → Int32} {sl sl1 sl2 : Nat → Nat → Int64} {so so1 so2 : Nat → XR} (h1 : FX a st sl so st1 sl1 so1) (h2 : FX b st1 sl1 so1 st2 sl2 so2) (ha : a ≤ n) (hb : b ≤ n) : FX n st sl so st2 sl2 so2 := fun r k hd => ⟨((h2 r k (dc_mono hb hd)).1).trans (h1 r k (dc_mono ha hd)).1, ((h2 r k (dc_mono hb hd)).2.1).trans (h1 r k (dc_mono ha hd)).2.1, ((h2 r k (dc_mono hb hd)).2.2).trans (h1 r k (dc_mono ha hd)).2.2⟩
theorem dc_size (n j : Nat) : dc n 1 1 = false ∧ dc n 1 2 = false ∧ dc n 2 j = false := by
  unfold dc; simp
theorem CBt.fr {B : Nat → Nat} {g m n : Nat} {st st' : Nat → Nat → Int32} {sl sl' : Nat → Nat → Int64} {so so' : Nat → XR} (h : CBt B g m st) (hF : FX n st sl so st' sl' so') : CBt B g m st' :=
  ⟨((hF 1 1 (dc_size n 0).1).1).trans h.1, ((hF 1 2 (dc_size n 0).2.1).1).trans h.2.1, h.2.2.1, h.2.2.2.1, fun j hj => ⟨((hF 2 j (dc_size n j).2.2).1).trans (h.2.2.2.2 j hj).1, (h.2.2.2.2 j hj).2⟩⟩
def TC (B : Nat → Nat) (g m p : Nat) (ad : Nat → Nat) (st : Nat → Nat → Int32) (sl : Nat → Nat → Int64) (so : Nat → XR) : Prop :=
  st 1 3 = nI (tkx B g m p) ∧ st 1 5 = nI (tka B g m p) ∧ st 1 4 = nI ((tkd B g m p + 3) % 5) ∧ (tkd B g m p = 3 ∨ tkd B g m p = 4 → st 1 6 = nI (tkv B g p)) ∧ (tkd B g m p = 2 → sl 1 8 = lN (tkc B g p)) ∧ so 1 7 = some (ad (tkw B g m p)) ∧ p ≤ g
theorem TC.up {B : Nat → Nat} {g m p : Nat} {ad : Nat → Nat} {st : Nat → Nat → Int32} {sl : Nat → Nat → Int64} {so : Nat → XR} (h : TC B g m p ad st sl so) {r k : Nat} {v : Int32} (hd : ¬ (r = 1 ∧ 3 ≤ k ∧ k ≤ 6)) : TC B g m p ad (up2 st r k v) sl so := by
  have e : ∀ j, 3 ≤ j → j ≤ 6 → up2 st r k v 1 j = st 1 j := fun j h1 h2 => up2_ne st v (by omega)
  obtain ⟨a1, a2, a3, a4, a5, a6, a7⟩ := h
  exact ⟨(e 3 (by omega) (by omega)).trans a1, (e 5 (by omega) (by omega)).trans a2, (e 4 (by omega) (by omega)).trans a3, fun z => (e 6 (by omega) (by omega)).trans (a4 z), a5, a6, a7⟩
theorem TC.upL {B : Nat → Nat} {g m p : Nat} {ad : Nat → Nat} {st : Nat → Nat → Int32} {sl : Nat → Nat → Int64} {so : Nat → XR} (h : TC B g m p ad st sl so) {r k : Nat} {v : Int64} (hd : ¬ (r = 1 ∧ k = 8)) : TC B g m p ad st (upL sl r k v) so := by
  obtain ⟨a1, a2, a3, a4, a5, a6, a7⟩ := h
  exact ⟨a1, a2, a3, a4, fun z => (upL_ne sl v (by omega)).trans (a5 z), a6, a7⟩
theorem TC.lim {B : Nat → Nat} {g m p : Nat} {ad : Nat → Nat} {st : Nat → Nat → Int32} {sl : Nat → Nat → Int64} {so : Nat → XR} (hp : p ≤ g) (h : m < g ∧ m ≤ tkq B g p) (h3 : st 1 3 = nI (tkq B g p)) (h5 : st 1 5 = nI m) (h4 : st 1 4 = nI 4) (h7 : so 1 7 = some (ad 25)) : TC B g m p ad st sl so := by
  have d : tkd B g m p = 1 := by unfold tkd; rw [if_pos h]
  have x : tkx B g m p = tkq B g p := by unfold tkx; rw [if_pos h]
  have a : tka B g m p = m := by unfold tka; rw [if_pos h]
  have w : tkw B g m p = 25 := tkw_n (by omega)
  exact ⟨by rw [x]; exact h3, by rw [a]; exact h5, by rw [d]; exact h4, fun z => absurd z (by omega), fun z => absurd z (by omega), by rw [w]; exact h7, hp⟩
theorem TC.stop {B : Nat → Nat} {g m p : Nat} {ad : Nat → Nat} {st : Nat → Nat → Int32} {sl : Nat → Nat → Int64} {so : Nat → XR} (hp : p ≤ g) (h : ¬ (m < g ∧ m ≤ tkq B g p)) (h2 : g ≤ tkq B g p) (h3 : st 1 3 = nI (tkq B g p)) (h5 : st 1 5 = nI (tkq B g p)) (h4 : st 1 4 = nI 3) (h7 : so 1 7 = some (ad 25)) : TC B g m p ad st sl so := by
  have d : tkd B g m p = 0 := by unfold tkd; rw [if_neg h, if_pos h2]
  have x : tkx B g m p = tkq B g p := by unfold tkx; rw [if_neg h, if_pos h2]
  have a : tka B g m p = tkq B g p := by unfold tka; rw [if_neg h]
  have w : tkw B g m p = 25 := tkw_n (by omega)
  exact ⟨by rw [x]; exact h3, by rw [a]; exact h5, by rw [d]; exact h4, fun z => absurd z (by omega), fun z => absurd z (by omega), by rw [w]; exact h7, hp⟩
theorem TC.sign {B : Nat → Nat} {g m p : Nat} {ad : Nat → Nat} {st : Nat → Nat → Int32} {sl : Nat → Nat → Int64} {so : Nat → XR} (hp : p ≤ g) (h : ¬ (m < g ∧ m ≤ tkq B g p)) (h2 : ¬ g ≤ tkq B g p) (hn : ¬ (qL (B (tkq B g p)) ∨ qD (B (tkq B g p)))) (hb : B (tkq B g p) < 256) (k : Nat) (hk : (k = 2 ∧ qM (B (tkq B g p))) ∨ (k = 4 ∧ ¬ qM (B (tkq B g p)))) (h3 : st 1 3 = nI (tkq B g p + 1)) (h5 : st 1 5 = nI (tkq B g p)) (h4 : st 1 4 = nI k) (h6 : st 1 6 = sbt (B (tkq B g p))) (h7 : so 1 7 = some (ad 25)) : TC B g m p ad st sl so := by
  have x : tkx B g m p = tkq B g p + 1 := by unfold tkx; rw [if_neg h, if_neg h2, if_neg hn]
  have a : tka B g m p = tkq B g p := by unfold tka; rw [if_neg h]
  have v : tkv B g p = B (tkq B g p) := by unfold tkv; rw [if_neg hn]
  rcases hk with ⟨rfl, c⟩ | ⟨rfl, c⟩
  · have d : tkd B g m p = 4 := by unfold tkd; rw [if_neg h, if_neg h2, if_neg hn, if_pos c]
    have w : tkw B g m p = 25 := tkw_n (by omega)
    have c9 : B (tkq B g p) = 59 ∨ B (tkq B g p) = 60 ∨ B (tkq B g p) = 61 ∨ B (tkq B g p) = 62 ∨ B (tkq B g p) = 40 ∨ B (tkq B g p) = 41 := c
    exact ⟨by rw [x]; exact h3, by rw [a]; exact h5, by rw [d]; exact h4, fun _ => by rw [v, h6]; exact sbt_n _ hb (by omega), fun z => absurd z (by omega), by rw [w]; exact h7, hp⟩
  · have d : tkd B g m p = 1 := by unfold tkd; rw [if_neg h, if_neg h2, if_neg hn, if_neg c]
    have w : tkw B g m p = 25 := tkw_n (by omega)
    exact ⟨by rw [x]; exact h3, by rw [a]; exact h5, by rw [d]; exact h4, fun z => absurd z (by omega), fun z => absurd z (by omega), by rw [w]; exact h7, hp⟩
/-! behind a run: k is the class's sort -/
theorem TC.run {B : Nat → Nat} {g m p : Nat} {ad : Nat → Nat} {st : Nat → Nat → Int32} {sl : Nat → Nat → Int64} {so : Nat → XR} (hp : p ≤ g) (hg : g < 941) (h : ¬ (m < g ∧ m ≤ tkq B g p)) (h2 : ¬ g ≤ tkq B g p) (ha : qL (B (tkq B g p)) ∨ qD (B (tkq B g p))) (k : Nat) (hk : (k = 0 ∧ cnL B (tkq B g p) (tkn B g p) = tkn B g p ∧ tkn B g p ≤ 7) ∨ (k = 1 ∧ cnL B (tkq B g p) (tkn B g p) = 0 ∧ tkn B g p ≤ 3) ∨ (k = 4 ∧ ¬ (cnL B (tkq B g p) (tkn B g p) = tkn B g p ∧ tkn B g p ≤ 7) ∧ ¬ (cnL B (tkq B g p) (tkn B g p) = 0 ∧ tkn B g p ≤ 3))) (h3 : st 1 3 = nI (tke B g p)) (h5 : st 1 5 = nI (tkq B g p)) (h4 : st 1 4 = nI k) (h6 : k = 1 → st 1 6 = nI (nmb B (tkq B g p) (tkn B g p))) (h8 : k = 0 → sl 1 8 = lN (cd5 B (tkq B g p) (tkn B g p))) (h7 : so 1 7 = some (ad (if k = 0 then kwi 24 (cd5 B (tkq B g p) (tkn B g p)) else 25))) : TC B g m p ad st sl so := by
  have hn := tkn_pos (B := B) (g := g) (p := p) (by omega) hg h2 ha
  have x : tkx B g m p = tke B g p := by unfold tkx; rw [if_neg h, if_neg h2, if_pos ha]
  have a : tka B g m p = tkq B g p := by unfold tka; rw [if_neg h]
  have v : tkv B g p = nmb B (tkq B g p) (tkn B g p) := by unfold tkv; rw [if_pos ha]
  rcases hk with ⟨rfl, c⟩ | ⟨rfl, c⟩ | ⟨rfl, c, c2⟩
  · have d : tkd B g m p = 2 := by unfold tkd; rw [if_neg h, if_neg h2, if_pos ha, if_pos c]
    have w : tkw B g m p = kwi 24 (tkc B g p) := tkw_y d
    exact ⟨by rw [x]; exact h3, by rw [a]; exact h5, by rw [d]; exact h4, fun z => absurd z (by omega), fun _ => h8 rfl, by rw [w]; exact h7, hp⟩
  · have d : tkd B g m p = 3 := by unfold tkd; rw [if_neg h, if_neg h2, if_pos ha, if_neg (by omega), if_pos c]
    have w : tkw B g m p = 25 := tkw_n (by omega)
    exact ⟨by rw [x]; exact h3, by rw [a]; exact h5, by rw [d]; exact h4, fun _ => by rw [v]; exact h6 rfl, fun z => absurd z (by omega), by rw [w]; exact h7, hp⟩
  · have d : tkd B g m p = 1 := by unfold tkd; rw [if_neg h, if_neg h2, if_pos ha, if_neg c, if_neg c2]
    have w : tkw B g m p = 25 := tkw_n (by omega)
    exact ⟨by rw [x]; exact h3, by rw [a]; exact h5, by rw [d]; exact h4, fun z => absurd z (by omega), fun z => absurd z (by omega), by rw [w]; exact h7, hp⟩
