def xrg (r k : Nat) : Nat := if r < 20 then (if r = 1 then (if k = 1 ∨ k = 2 ∨ k = 3 ∨ k = 5 then 941 else 0) else if r = 11 then (if k = 1 then 9 else 0) else if r = 4 then (if k = 5 then 41 else 0) else if r = 7 then 5 else 0) else if r < 36 then (if (r - 20) % 4 = 0 then (if k = 3 then 41 else 0) else 0) else (if (r - 36) % 20 = 0 then (if k = 5 then 6 else if k = 6 then 9 else if k = 7 then 7 else 0) else if (r - 36) % 20 < 6 then 0 else if (r - 36) % 20 < 14 then (if k = 1 then 5 else 0) else if k = 1 then 8 else if k = 4 then 2 else 0)
def xcl (r k : Nat) : Nat := if r < 20 then (if r = 1 then (if k = 1 then 1 else if k = 13 then 10 else if k = 9 then 11 else 0) else if r = 0 then (if k = 16 then 12 else 0) else if r = 18 then 13 else if r = 19 then 13 else if r = 2 then 14 else if r = 11 then (if k = 1 ∨ k = 2 then 15 else 0) else if r = 15 then 2 else if r = 6 then 3 else if r = 4 then (if k = 5 then 6 else 0) else 0) else if r < 36 then (if (r - 20) % 4 = 3 then (if (r - 20) / 4 = 1 then 8 else 4) else if (r - 20) % 4 = 0 then (if k = 3 then (if (r - 20) / 4 = 1 then 9 else 5) else 0) else 0) else if (r - 36) % 20 = 0 then (if k = 5 ∨ k = 6 ∨ k = 7 then 7 else 0) else 0
def XI (st : Nat → Nat → Int32) : Prop := ∀ r k, 0 < xrg r k → ∃ n, n < xrg r k ∧ st r k = nI n
def XG (S : List Nat) (s0 st : Nat → Nat → Int32) : Prop := XI st ∧ ∀ r k, xcl r k ∈ S → st r k = s0 r k
theorem XG.rf {S : List Nat} {st : Nat → Nat → Int32} (h : XI st) : XG S st st := ⟨h, fun _ _ _ => rfl⟩
theorem XI.up {st : Nat → Nat → Int32} (h : XI st) {r k : Nat} {v : Int32} (hv : 0 < xrg r k → ∃ n, n < xrg r k ∧ v = nI n) : XI (up2 st r k v) := by
  intro a j hj
  by_cases e : a = r ∧ j = k
  · obtain ⟨rfl, rfl⟩ := e
    rw [up2_same]; exact hv hj
  · rw [up2_ne st v e]; exact h a j hj
theorem XG.up {S : List Nat} {s0 st : Nat → Nat → Int32} (h : XG S s0 st) {r k : Nat} {v : Int32} (hv : 0 < xrg r k → ∃ n, n < xrg r k ∧ v = nI n) (hp : xcl r k ∉ S) : XG S s0 (up2 st r k v) := by
  refine ⟨h.1.up hv, fun a j hj => ?_⟩
  rw [up2_ne st v (fun e => hp (by obtain ⟨rfl, rfl⟩ := e; exact hj))]; exact h.2 a j hj
theorem XG.tr {S S1 : List Nat} {s0 st s1 : Nat → Nat → Int32} (h : XG S s0 st) (h1 : XG S1 st s1) (hs : ∀ c ∈ S, c ∈ S1) : XG S s0 s1 := ⟨h1.1, fun a j hj => (h1.2 a j (hs _ hj)).trans (h.2 a j hj)⟩
theorem XI.at {st : Nat → Nat → Int32} (h : XI st) {r k b : Nat} (hb : xrg r k = b) (h0 : 0 < b) : ∃ n, n < b ∧ st r k = nI n := by subst hb; exact h r k h0
theorem xz {r k : Nat} {v : Int32} (h : xrg r k = 0) : 0 < xrg r k → ∃ n, n < xrg r k ∧ v = nI n := fun q => absurd h (by omega)
theorem xn {r k b n : Nat} (h : xrg r k = b) (hn : n < b) : 0 < xrg r k → ∃ m, m < xrg r k ∧ nI n = nI m := fun _ => ⟨n, by omega, rfl⟩
theorem xc {st : Nat → Nat → Int32} (hI : XI st) {r k r' k' : Nat} (h : xrg r k = xrg r' k') : 0 < xrg r k → ∃ m, m < xrg r k ∧ st r' k' = nI m := fun q => by rw [h] at q ⊢; exact hI r' k' q
theorem xpn {r k c : Nat} {S : List Nat} (h : xcl r k = c) (hc : c ∉ S) : xcl r k ∉ S := by rw [h]; exact hc
theorem xrg_pk {i o k : Nat} (ho : o < 20) : xrg (36 + 20 * i + o) k = if o = 0 then (if k = 5 then 6 else if k = 6 then 9 else if k = 7 then 7 else 0) else if o < 6 then 0 else if o < 14 then (if k = 1 then 5 else 0) else if k = 1 then 8 else if k = 4 then 2 else 0 := by
  unfold xrg; rw [if_neg (by omega), if_neg (by omega), show (36 + 20 * i + o - 36) % 20 = o by omega]
theorem xrg_pe {i p k : Nat} (hp : p < 8) : xrg (36 + 20 * i + (6 + p)) k = if k = 1 then 5 else 0 := by
  rw [xrg_pk (by omega), if_neg (by omega), if_neg (by omega), if_pos (by omega)]
theorem xrg_do {i p k : Nat} (hp : p < 6) : xrg (36 + 20 * i + (14 + p)) k = if k = 1 then 8 else if k = 4 then 2 else 0 := by
  rw [xrg_pk (by omega), if_neg (by omega), if_neg (by omega), if_neg (by omega)]
theorem xcl_pk {i o k : Nat} (ho : o < 20) : xcl (36 + 20 * i + o) k = if o = 0 then (if k = 5 ∨ k = 6 ∨ k = 7 then 7 else 0) else 0 := by
  unfold xcl; rw [if_neg (by omega), if_neg (by omega), show (36 + 20 * i + o - 36) % 20 = o by omega]
theorem xcl_pe {i p k : Nat} (hp : p < 8) : xcl (36 + 20 * i + (6 + p)) k = 0 := by rw [xcl_pk (by omega), if_neg (by omega)]
theorem xcl_do {i p k : Nat} (hp : p < 6) : xcl (36 + 20 * i + (14 + p)) k = 0 := by rw [xcl_pk (by omega), if_neg (by omega)]
theorem zz_nb {n : Nat} (h : n < 2) : narrow .boolean (.int (nI n)) = .int (nI n) := by
  rcases (show n = 0 ∨ n = 1 by omega) with e | e
  · subst e; decide
  · subst e; decide
theorem zz_fb {n : Nat} (h : n < 2) : fits .boolean (.int (nI n)) = true := by
  rcases (show n = 0 ∨ n = 1 by omega) with e | e
  · subst e; decide
  · subst e; decide
theorem zz_nz {z : Int32} (h : z = 0 ∨ z = 1) : narrow .boolean (.int z) = .int z := by
  rcases h with e | e
  · subst e; decide
  · subst e; decide
theorem nI_remN {a b : Nat} (ha : a < 2 ^ 31) (hb : 0 < b ∧ b < 2 ^ 31) : nI a - nI a / nI b * nI b = nI (a % b) := by
  have h1 : a / b * b ≤ a := Nat.div_mul_le_self a b
  rw [nI_divN ha hb, nI_mul, nI_subN h1 ha]
  congr 1
  have := Nat.div_add_mod a b
  rw [Nat.mul_comm] at this
  omega
theorem xrg_sn {q o k : Nat} (hq : q < 4) (ho : o < 4) : xrg (20 + 4 * q + o) k = if o = 0 then (if k = 3 then 41 else 0) else 0 := by
  unfold xrg; rw [if_neg (by omega), if_pos (by omega), show (20 + 4 * q + o - 20) % 4 = o by omega]
theorem xcl_sn {q o k : Nat} (hq : q < 4) (ho : o < 4) : xcl (20 + 4 * q + o) k = if o = 3 then (if q = 1 then 8 else 4) else if o = 0 then (if k = 3 then (if q = 1 then 9 else 5) else 0) else 0 := by
  unfold xcl; rw [if_neg (by omega), if_pos (by omega), show (20 + 4 * q + o - 20) % 4 = o by omega, show (20 + 4 * q + o - 20) / 4 = q by omega]
/-! what is in each of the class's parks: how many there are, and their names -/
theorem xcl_ct {q a : Nat} (ha : a < 3) : xcl (36 + 20 * q) (5 + a) = 7 := by
  unfold xcl
  rw [if_neg (by omega), if_neg (by omega), if_pos (by omega), if_pos (by omega)]
theorem xcl_h1 : xcl 11 1 = 15 := by decide
theorem xcl_h2 : xcl 11 2 = 15 := by decide
def cnq (st : Nat → Nat → Int32) (q a : Nat) : Nat := (st (36 + 20 * q) (5 + a)).toNatClampNeg
def PE (st : Nat → Nat → Int32) (sl : Nat → Nat → Int64) (q : Nat) (st' : Nat → Nat → Int32) (sl' : Nat → Nat → Int64) (q' : Nat) : Prop :=
  (∀ a, a < 3 → st' (36 + 20 * q') (5 + a) = st (36 + 20 * q) (5 + a)) ∧ (∀ l, l < cnq st q 0 → sl' (36 + 20 * q' + 1) l = sl (36 + 20 * q + 1) l) ∧ (∀ l, l < cnq st q 1 → sl' (36 + 20 * q' + (6 + l)) 0 = sl (36 + 20 * q + (6 + l)) 0) ∧ ∀ l, l < cnq st q 2 → sl' (36 + 20 * q' + (14 + l)) 0 = sl (36 + 20 * q + (14 + l)) 0
def LGq (sl sl' : Nat → Nat → Int64) : Prop := ∀ r k, 36 ≤ r → sl' r k = sl r k
def LX (i : Nat) (sl sl' : Nat → Nat → Int64) : Prop := ∀ r k, ¬ (36 + 20 * i ≤ r ∧ r < 36 + 20 * i + 20) → sl' r k = sl r k
def CQ0 (i j : Nat) (st st' : Nat → Nat → Int32) : Prop := (∀ a, a < 3 → st' (36 + 20 * i) (5 + a) = st (36 + 20 * j) (5 + a)) ∧ ∀ q, q < 13 → ¬ q = i → ∀ a, a < 3 → st' (36 + 20 * q) (5 + a) = st (36 + 20 * q) (5 + a)
def CQ (i j : Nat) (st : Nat → Nat → Int32) (sl : Nat → Nat → Int64) (st' : Nat → Nat → Int32) (sl' : Nat → Nat → Int64) : Prop := PE st sl j st' sl' i ∧ ∀ q, q < 13 → ¬ q = i → PE st sl q st' sl' q
def HC (st : Nat → Nat → Int32) (sl : Nat → Nat → Int64) : Prop := ∃ n s, n < 9 ∧ s < 9 ∧ st 11 1 = nI n ∧ st 11 2 = nI s ∧ ∀ j, 1 ≤ j → j ≤ s → PE st sl 0 st sl (2 + (n + 9 - j) % 9)
def MKD (st : Nat → Nat → Int32) (sl : Nat → Nat → Int64) : Prop := ∃ n, n < 9 ∧ st 11 1 = nI n ∧ PE st sl 0 st sl (2 + n)
def NI (st : Nat → Nat → Int32) (sl : Nat → Nat → Int64) (st' : Nat → Nat → Int32) (sl' : Nat → Nat → Int64) : Prop := HC st sl → HC st' sl' ∧ ∀ q, q = 0 ∨ q = 11 ∨ q = 12 → PE st sl q st' sl' q
section NAM
variable {st st' st2 : Nat → Nat → Int32} {sl sl' sl2 : Nat → Nat → Int64} {S : List Nat} {i j r k n q q' q2 : Nat} {v : Int32} {w : Int64}
theorem LGq.rf : LGq sl sl := fun _ _ _ => rfl
theorem LGq.tr (h : LGq sl sl') (h2 : LGq sl' sl2) : LGq sl sl2 := fun r k hr => (h2 r k hr).trans (h r k hr)
theorem LGq.up (h : LGq sl sl') (hr : r < 36) : LGq sl (upL sl' r k w) := fun a j ha => (upL_ne sl' w (by omega)).trans (h a j ha)
theorem LX.rf : LX i sl sl := fun _ _ _ => rfl
theorem LX.tr (h : LX i sl sl') (h2 : LX i sl' sl2) : LX i sl sl2 := fun r k hr => (h2 r k hr).trans (h r k hr)
theorem LX.up (h : LX i sl sl') (hr : 36 + 20 * i ≤ r ∧ r < 36 + 20 * i + 20) : LX i sl (upL sl' r k w) := fun a j ha => (upL_ne sl' w (by omega)).trans (h a j ha)
theorem PE.ce (h : PE st sl q st' sl' q') {a : Nat} (ha : a < 3) : cnq st' q' a = cnq st q a := by
  unfold cnq; rw [h.1 a ha]
theorem PE.rf : PE st sl q st sl q := ⟨fun _ _ => rfl, fun _ _ => rfl, fun _ _ => rfl, fun _ _ => rfl⟩
theorem PE.sm (h : PE st sl q st' sl' q') : PE st' sl' q' st sl q :=
  ⟨fun a ha => (h.1 a ha).symm, fun l hl => (h.2.1 l (by rw [h.ce (a := 0) (by omega)] at hl; exact hl)).symm, fun l hl => (h.2.2.1 l (by rw [h.ce (a := 1) (by omega)] at hl; exact hl)).symm, fun l hl => (h.2.2.2 l (by rw [h.ce (a := 2) (by omega)] at hl; exact hl)).symm⟩
theorem PE.tr (h : PE st sl q st' sl' q') (h2 : PE st' sl' q' st2 sl2 q2) : PE st sl q st2 sl2 q2 :=
  ⟨fun a ha => (h2.1 a ha).trans (h.1 a ha), fun l hl => (h2.2.1 l (by rw [h.ce (a := 0) (by omega)]; exact hl)).trans (h.2.1 l hl), fun l hl => (h2.2.2.1 l (by rw [h.ce (a := 1) (by omega)]; exact hl)).trans (h.2.2.1 l hl), fun l hl => (h2.2.2.2 l (by rw [h.ce (a := 2) (by omega)]; exact hl)).trans (h.2.2.2 l hl)⟩
theorem PE.eq (hc : ∀ a, a < 3 → st' (36 + 20 * q) (5 + a) = st (36 + 20 * q) (5 + a)) (hL : LGq sl sl') : PE st sl q st' sl' q := ⟨hc, fun l _ => hL _ _ (by omega), fun l _ => hL _ _ (by omega), fun l _ => hL _ _ (by omega)⟩
theorem PE.up (h : PE st sl q st' sl' q') (hr : ∀ a, a < 3 → ¬ (36 + 20 * q' = r ∧ 5 + a = k)) : PE st sl q (up2 st' r k v) sl' q' := ⟨fun a ha => (up2_ne st' v (hr a ha)).trans (h.1 a ha), h.2⟩
theorem XG.ct (hG : XG S st st') (h7 : 7 ∈ S) (q : Nat) {a : Nat} (ha : a < 3) : st' (36 + 20 * q) (5 + a) = st (36 + 20 * q) (5 + a) := hG.2 _ _ (by rw [xcl_ct ha]; exact h7)
theorem XG.h1 (hG : XG S st st') (h15 : 15 ∈ S) : st' 11 1 = st 11 1 := hG.2 _ _ (by rw [xcl_h1]; exact h15)
theorem XG.h2 (hG : XG S st st') (h15 : 15 ∈ S) : st' 11 2 = st 11 2 := hG.2 _ _ (by rw [xcl_h2]; exact h15)
theorem XG.pe (hG : XG S st st') (h7 : 7 ∈ S) (hL : LGq sl sl') (q : Nat) : PE st sl q st' sl' q := PE.eq (fun _ ha => hG.ct h7 q ha) hL
theorem CQ0.up (h : CQ0 i j st st') (hr : ∀ q a, a < 3 → ¬ (36 + 20 * q = r ∧ 5 + a = k)) : CQ0 i j st (up2 st' r k v) :=
  ⟨fun a ha => (up2_ne st' v (hr i a ha)).trans (h.1 a ha), fun q h1 h2 a ha => (up2_ne st' v (hr q a ha)).trans (h.2 q h1 h2 a ha)⟩
theorem CQ0.mg (h : CQ0 i j st st') (hG : XG S st' st2) (h7 : 7 ∈ S) : CQ0 i j st st2 :=
  ⟨fun a ha => (hG.ct h7 i ha).trans (h.1 a ha), fun q h1 h2 a ha => (hG.ct h7 q ha).trans (h.2 q h1 h2 a ha)⟩
theorem CQ0.mk (z1 z2 z3 : Int32) (e1 : st (36 + 20 * j) 5 = z1) (e2 : up2 st (36 + 20 * i) 5 z1 (36 + 20 * j) 6 = z2) (e3 : up2 (up2 st (36 + 20 * i) 5 z1) (36 + 20 * i) 6 z2 (36 + 20 * j) 7 = z3) : CQ0 i j st (up2 (up2 (up2 st (36 + 20 * i) 5 z1) (36 + 20 * i) 6 z2) (36 + 20 * i) 7 z3) := by
  rw [up2_ne st z1 (by omega)] at e2
  rw [up2_ne _ z2 (by omega), up2_ne st z1 (by omega)] at e3
  refine ⟨fun a ha => ?_, fun q h1 h2 a ha => ?_⟩
  · rcases (show a = 0 ∨ a = 1 ∨ a = 2 by omega) with rfl | rfl | rfl
    · show up2 (up2 (up2 st (36 + 20 * i) 5 z1) (36 + 20 * i) 6 z2) (36 + 20 * i) 7 z3 (36 + 20 * i) 5 = st (36 + 20 * j) 5
      rw [up2_ne _ z3 (by omega), up2_ne _ z2 (by omega), up2_same]; exact e1.symm
    · show up2 (up2 (up2 st (36 + 20 * i) 5 z1) (36 + 20 * i) 6 z2) (36 + 20 * i) 7 z3 (36 + 20 * i) 6 = st (36 + 20 * j) 6
      rw [up2_ne _ z3 (by omega), up2_same]; exact e2.symm
    · show up2 (up2 (up2 st (36 + 20 * i) 5 z1) (36 + 20 * i) 6 z2) (36 + 20 * i) 7 z3 (36 + 20 * i) 7 = st (36 + 20 * j) 7
      rw [up2_same]; exact e3.symm
  · rw [up2_ne _ z3 (by omega), up2_ne _ z2 (by omega), up2_ne _ z1 (by omega)]
theorem CQ.of0 (h : CQ0 i j st st') (hx : LX i sl sl') (h0 : ∀ l, l < cnq st j 0 → sl' (36 + 20 * i + 1) l = sl (36 + 20 * j + 1) l) (h1 : ∀ l, l < cnq st j 1 → sl' (36 + 20 * i + (6 + l)) 0 = sl (36 + 20 * j + (6 + l)) 0) (h2 : ∀ l, l < cnq st j 2 → sl' (36 + 20 * i + (14 + l)) 0 = sl (36 + 20 * j + (14 + l)) 0) (hb : ∀ q, q < 13 → cnq st q 1 ≤ 8 ∧ cnq st q 2 ≤ 6) : CQ i j st sl st' sl' :=
  ⟨⟨h.1, h0, h1, h2⟩, fun q hq hi => ⟨fun a ha => h.2 q hq hi a ha, fun l _ => hx _ _ (by omega), fun l hl => hx _ _ (by have := hb q hq; omega), fun l hl => hx _ _ (by have := hb q hq; omega)⟩⟩
theorem cnq_n {m : Nat} (e : st (36 + 20 * q) (5 + m) = nI n) (hn : n < 2 ^ 31) : cnq st q m = n := by
  unfold cnq; rw [e]; exact nI_clamp hn
theorem cnq_le (hI : XI st) : ∀ q, q < 13 → cnq st q 1 ≤ 8 ∧ cnq st q 2 ≤ 6 := fun q hq => by
  obtain ⟨a, ha, ea⟩ := hI.at (r := (36 + 20 * q)) (k := 6) (b := 9) ((xrg_pk (i := q) (o := 0) (k := 6) (by omega)).trans (by first | rfl | decide)) (by decide)
  obtain ⟨b, hb, eb⟩ := hI.at (r := (36 + 20 * q)) (k := 7) (b := 7) ((xrg_pk (i := q) (o := 0) (k := 7) (by omega)).trans (by first | rfl | decide)) (by decide)
  rw [cnq_n (m := 1) ea (by omega), cnq_n (m := 2) eb (by omega)]
  omega
def KC (a b c i j : Nat) (st : Nat → Nat → Int32) (sl : Nat → Nat → Int64) (st' : Nat → Nat → Int32) (sl' : Nat → Nat → Int64) : Prop := CQ0 i j st st' ∧ LX i sl sl' ∧ (∀ l, l < a → sl' (36 + 20 * i + 1) l = sl (36 + 20 * j + 1) l) ∧ (∀ l, l < b → sl' (36 + 20 * i + (6 + l)) 0 = sl (36 + 20 * j + (6 + l)) 0) ∧ ∀ l, l < c → sl' (36 + 20 * i + (14 + l)) 0 = sl (36 + 20 * j + (14 + l)) 0
theorem KC.of0 (h : CQ0 i j st st') : KC 0 0 0 i j st sl st' sl := ⟨h, LX.rf, fun l hl => absurd hl (Nat.not_lt_zero l), fun l hl => absurd hl (Nat.not_lt_zero l), fun l hl => absurd hl (Nat.not_lt_zero l)⟩
theorem KC.up {a b c : Nat} (h : KC a b c i j st sl st' sl') (hr : ∀ q a, a < 3 → ¬ (36 + 20 * q = r ∧ 5 + a = k)) : KC a b c i j st sl (up2 st' r k v) sl' := ⟨h.1.up hr, h.2⟩
theorem KC.pl (h : KC k 0 0 i j st sl st' sl') (hij : ¬ i = j) : KC (k + 1) 0 0 i j st sl st' (upL sl' (36 + 20 * i + 1) k (sl' (36 + 20 * j + 1) k)) := by
  refine ⟨h.1, h.2.1.up (by omega), fun l hl => ?_, fun l hl => absurd hl (Nat.not_lt_zero l), fun l hl => absurd hl (Nat.not_lt_zero l)⟩
  by_cases e : l = k
  · subst e; rw [upL_same]; exact h.2.1 _ _ (by omega)
  · rw [upL_ne sl' _ (by omega)]; exact h.2.2.1 l (by omega)
theorem KC.pe {a : Nat} (h : KC a k 0 i j st sl st' sl') (hij : ¬ i = j) (hk : k < 8) (he : sl2 = upL sl' (36 + 20 * i + (6 + k)) 0 (sl' (36 + 20 * j + (6 + k)) 0)) (hG : XG S st' st2) (h7 : 7 ∈ S) : KC a (k + 1) 0 i j st sl st2 sl2 := by
  subst he
  refine ⟨h.1.mg hG h7, h.2.1.up (by omega), fun l hl => ?_, fun l hl => ?_, fun l hl => absurd hl (Nat.not_lt_zero l)⟩
  · rw [upL_ne sl' _ (by omega)]; exact h.2.2.1 l hl
  · by_cases e : l = k
    · subst e; rw [upL_same]; exact h.2.1 _ _ (by omega)
    · rw [upL_ne sl' _ (by omega)]; exact h.2.2.2.1 l (by omega)
theorem KC.do_ {a b : Nat} (h : KC a b k i j st sl st' sl') (hij : ¬ i = j) (hk : k < 6 ∧ b ≤ 8) (he : sl2 = upL sl' (36 + 20 * i + (14 + k)) 0 (sl' (36 + 20 * j + (14 + k)) 0)) (hG : XG S st' st2) (h7 : 7 ∈ S) : KC a b (k + 1) i j st sl st2 sl2 := by
  subst he
  refine ⟨h.1.mg hG h7, h.2.1.up (by omega), fun l hl => ?_, fun l hl => ?_, fun l hl => ?_⟩
  · rw [upL_ne sl' _ (by omega)]; exact h.2.2.1 l hl
  · rw [upL_ne sl' _ (by omega)]; exact h.2.2.2.1 l hl
  · by_cases e : l = k
    · subst e; rw [upL_same]; exact h.2.1 _ _ (by omega)
    · rw [upL_ne sl' _ (by omega)]; exact h.2.2.2.2 l (by omega)
theorem CQ0.cn (h : CQ0 i j st st') {m : Nat} (hm : m < 3) (e : st' (36 + 20 * i) (5 + m) = nI n) (hn : n < 2 ^ 31) : cnq st j m = n := cnq_n ((h.1 m hm).symm.trans e) hn
theorem KC.a (h : KC k 0 0 i j st sl st' sl') (e : st' (36 + 20 * i) 5 = nI n) (hk : n ≤ k) (hn : n < 2 ^ 31) : KC (cnq st j 0) 0 0 i j st sl st' sl' := by
  rw [h.1.cn (m := 0) (by omega) e hn]; exact ⟨h.1, h.2.1, fun l hl => h.2.2.1 l (by omega), h.2.2.2⟩
theorem KC.b {a : Nat} (h : KC a k 0 i j st sl st' sl') (e : st' (36 + 20 * i) 6 = nI n) (hk : n ≤ k) (hn : n < 2 ^ 31) : KC a (cnq st j 1) 0 i j st sl st' sl' := by
  rw [h.1.cn (m := 1) (by omega) e hn]; exact ⟨h.1, h.2.1, h.2.2.1, fun l hl => h.2.2.2.1 l (by omega), h.2.2.2.2⟩
theorem KC.c {a b : Nat} (h : KC a b k i j st sl st' sl') (e : st' (36 + 20 * i) 7 = nI n) (hk : n ≤ k) (hn : n < 2 ^ 31) : KC a b (cnq st j 2) i j st sl st' sl' := by
  rw [h.1.cn (m := 2) (by omega) e hn]; exact ⟨h.1, h.2.1, h.2.2.1, h.2.2.2.1, fun l hl => h.2.2.2.2 l (by omega)⟩
theorem KC.cq (h : KC (cnq st j 0) (cnq st j 1) (cnq st j 2) i j st sl st' sl') (hb : ∀ q, q < 13 → cnq st q 1 ≤ 8 ∧ cnq st q 2 ≤ 6) : CQ i j st sl st' sl' := CQ.of0 h.1 h.2.1 h.2.2.1 h.2.2.2.1 h.2.2.2.2 hb
theorem CQ.up (h : CQ i j st sl st' sl') (hr : ∀ q a, a < 3 → ¬ (36 + 20 * q = r ∧ 5 + a = k)) : CQ i j st sl (up2 st' r k v) sl' :=
  ⟨h.1.up (hr i), fun q h1 h2 => (h.2 q h1 h2).up (hr q)⟩
theorem CQ.mg (h : CQ i j st sl st' sl') (hG : XG S st' st2) (h7 : 7 ∈ S) (hL : LGq sl' sl2) : CQ i j st sl st2 sl2 :=
  ⟨h.1.tr (hG.pe h7 hL i), fun q h1 h2 => (h.2 q h1 h2).tr (hG.pe h7 hL q)⟩
theorem CQ.up9 {m : Nat} (h : CQ m 0 st sl st' sl') (e : m = 11 + n) : CQ (11 + n) 0 st sl st' sl' := e ▸ h
theorem CQ.up8 {m : Nat} (h : CQ 0 m st sl st' sl') (e : m = 11 + n) : CQ 0 (11 + n) st sl st' sl' := e ▸ h
theorem HC.eq (h : HC st sl) (h1 : st' 11 1 = st 11 1) (h2 : st' 11 2 = st 11 2) (hc : ∀ q, q < 11 → ¬ q = 1 → PE st sl q st' sl' q) : HC st' sl' := by
  obtain ⟨n, s, a1, a2, a3, a4, a5⟩ := h
  exact ⟨n, s, a1, a2, h1.trans a3, h2.trans a4, fun j j1 j2 => (hc 0 (by omega) (by omega)).sm.tr ((a5 j j1 j2).tr (hc (2 + (n + 9 - j) % 9) (by omega) (by omega)))⟩
theorem MKD.eq (h : MKD st sl) (h1 : st' 11 1 = st 11 1) (hc : ∀ q, q < 11 → ¬ q = 1 → PE st sl q st' sl' q) : MKD st' sl' := by
  obtain ⟨n, a1, a2, a3⟩ := h
  exact ⟨n, a1, h1.trans a2, (hc 0 (by omega) (by omega)).sm.tr (a3.tr (hc (2 + n) (by omega) (by omega)))⟩
theorem MKD.mg (h : MKD st sl) (hG : XG S st st') (h7 : 7 ∈ S) (h15 : 15 ∈ S) (hL : LGq sl sl') : MKD st' sl' := h.eq (hG.h1 h15) (fun q _ _ => hG.pe h7 hL q)
theorem MKD.up (h : MKD st sl) (hr : ∀ q a, a < 3 → ¬ (36 + 20 * q = r ∧ 5 + a = k)) (h11 : ¬ (11 = r ∧ (1 = k ∨ 2 = k))) : MKD (up2 st r k v) sl := h.eq (up2_ne st v (by omega)) (fun q _ _ => PE.rf.up (hr q))
theorem NI.rf : NI st sl st sl := fun h => ⟨h, fun _ _ => PE.rf⟩
theorem NI.tr (h : NI st sl st' sl') (h2 : NI st' sl' st2 sl2) : NI st sl st2 sl2 := fun z => by
  obtain ⟨z1, e1⟩ := h z
  obtain ⟨z2, e2⟩ := h2 z1
  exact ⟨z2, fun q hq => (e1 q hq).tr (e2 q hq)⟩
theorem NI.eq (h1 : st' 11 1 = st 11 1) (h2 : st' 11 2 = st 11 2) (hc : ∀ q, q < 13 → ¬ q = 1 → PE st sl q st' sl' q) : NI st sl st' sl' := fun z => ⟨z.eq h1 h2 (fun q h3 h4 => hc q (by omega) h4), fun q hq => hc q (by omega) (by omega)⟩
theorem NI.mg (h : NI st sl st' sl') (hG : XG S st' st2) (h7 : 7 ∈ S) (h15 : 15 ∈ S) (hL : LGq sl' sl2) : NI st sl st2 sl2 := h.tr (NI.eq (hG.h1 h15) (hG.h2 h15) (fun q _ _ => hG.pe h7 hL q))
theorem NI.up (h : NI st sl st' sl') (hr : ∀ q a, a < 3 → ¬ (36 + 20 * q = r ∧ 5 + a = k)) (h11 : ¬ (11 = r ∧ (1 = k ∨ 2 = k))) : NI st sl (up2 st' r k v) sl' := h.tr (NI.eq (up2_ne st' v (by omega)) (up2_ne st' v (by omega)) (fun q _ _ => PE.rf.up (hr q)))
theorem NI.cq (h : NI st sl st' sl') (hq : CQ 1 j st' sl' st2 sl2) (hG : XG S st' st2) (h15 : 15 ∈ S) : NI st sl st2 sl2 := h.tr (NI.eq (hG.h1 h15) (hG.h2 h15) (fun q h1 h2 => hq.2 q h1 h2))
theorem NI.kp (h : NI st sl st' sl') (hm : MKD st' sl') (hk : HC st' sl' → MKD st' sl' → HC st2 sl2) (hG : XG S st' st2) (h7 : 7 ∈ S) (hL : LGq sl' sl2) : NI st sl st2 sl2 := h.tr (fun z => ⟨hk z hm, fun q _ => hG.pe h7 hL q⟩)
theorem mark_ni (hn : n < 9) (e : st 11 1 = nI n) (h : CQ (2 + n) 0 st sl st' sl') (hG : XG S st st') (h15 : 15 ∈ S) : NI st sl st' sl' := by
  rintro ⟨n1, s, a1, a2, a3, a4, a5⟩
  obtain rfl : n1 = n := (nI_eq (by omega) (by omega)).mp (a3.symm.trans e)
  exact ⟨⟨n1, s, a1, a2, (hG.h1 h15).trans a3, (hG.h2 h15).trans a4, fun j j1 j2 => (h.2 0 (by omega) (by omega)).sm.tr ((a5 j j1 j2).tr (h.2 (2 + (n1 + 9 - j) % 9) (by omega) (by omega)))⟩, fun q hq => h.2 q (by omega) (by omega)⟩
theorem mark_mk (hn : n < 9) (e : st 11 1 = nI n) (h : CQ (2 + n) 0 st sl st' sl') (hG : XG S st st') (h15 : 15 ∈ S) : MKD st' sl' := ⟨n, hn, (hG.h1 h15).trans e, (h.2 0 (by omega) (by omega)).sm.tr h.1⟩
theorem keep_ok {z : Int32} (hn : n < 9) (e1 : st 11 1 = nI n) (ez : st 11 2 = z) (x1 : st' 11 1 = nI ((n + 1) % 9)) (x2 : st' 11 2 = if 8 < z + 1 then 8 else z + 1) (hG : XG S st st') (h7 : 7 ∈ S) (hL : LGq sl sl') : HC st sl → MKD st sl → HC st' sl' := by
  rintro ⟨n1, s, a1, a2, a3, a4, a5⟩ ⟨n2, b1, b2, b3⟩
  obtain rfl : n1 = n := (nI_eq (by omega) (by omega)).mp (a3.symm.trans e1)
  obtain rfl : n2 = n1 := (nI_eq (by omega) (by omega)).mp (b2.symm.trans a3)
  have hz : z + 1 = nI (s + 1) := by
    rw [← ez, a4]; exact nI_add s 1
  have hm : ∃ s', s' < 9 ∧ s' ≤ s + 1 ∧ st' 11 2 = nI s' := by
    rw [x2, hz]
    by_cases h8 : s = 8
    · subst h8; exact ⟨8, by omega, by omega, by decide +kernel⟩
    · refine ⟨s + 1, by omega, by omega, if_neg (fun hh => ?_)⟩
      have := (nI_ltI (a := 8) (b := s + 1) (by omega) (by omega)).mp hh
      omega
  obtain ⟨s', d1, d2, d3⟩ := hm
  refine ⟨(n2 + 1) % 9, s', by omega, d1, x1, d3, fun j j1 j2 => ?_⟩
  refine (hG.pe h7 hL 0).sm.tr (PE.tr (q' := 2 + ((n2 + 1) % 9 + 9 - j) % 9) ?_ (hG.pe h7 hL _))
  by_cases hj : j = 1
  · rw [show ((n2 + 1) % 9 + 9 - j) % 9 = n2 by omega]; exact b3
  · rw [show ((n2 + 1) % 9 + 9 - j) % 9 = (n2 + 9 - (j - 1)) % 9 by omega]; exact a5 (j - 1) (by omega) (by omega)
theorem back_ok {z : Int32} (hn : n < 9) (e1 : st 11 1 = nI n) (ez : st 11 2 = z) (hz : ¬ z = 0) (x1 : st' 11 1 = nI ((n + 8) % 9)) (x2 : st' 11 2 = z - 1) (hc : ∀ q a, a < 3 → st' (36 + 20 * q) (5 + a) = st (36 + 20 * q) (5 + a)) (hL : LGq sl sl') (hq : CQ 0 (2 + (n + 8) % 9) st' sl' st2 sl2) (hG : XG S st' st2) (h15 : 15 ∈ S) : NI st sl st2 sl2 := by
  rintro ⟨n1, s, a1, a2, a3, a4, a5⟩
  obtain rfl : n1 = n := (nI_eq (by omega) (by omega)).mp (a3.symm.trans e1)
  have hs : ¬ s = 0 := fun e => hz (by rw [← ez, a4, e]; rfl)
  have e2 : z - 1 = nI (s - 1) := by
    rw [← ez, a4]; exact nI_subN (b := 1) (by omega) (by omega)
  have hp : ∀ q, PE st sl q st' sl' q := fun q => PE.eq (hc q) hL
  have k1 : PE st sl 0 st2 sl2 0 := by
    have h5 := a5 1 (by omega) (by omega)
    rw [show (n1 + 9 - 1) % 9 = (n1 + 8) % 9 by omega] at h5
    exact h5.tr ((hp _).tr hq.1)
  refine ⟨⟨(n1 + 8) % 9, s - 1, by omega, by omega, (hG.h1 h15).trans x1, (hG.h2 h15).trans (x2.trans e2), fun j j1 j2 => ?_⟩, fun q hq2 => ?_⟩
  · have h6 := a5 (j + 1) (by omega) (by omega)
    rw [show (n1 + 9 - (j + 1)) % 9 = ((n1 + 8) % 9 + 9 - j) % 9 by omega] at h6
    exact k1.sm.tr (h6.tr ((hp _).tr (hq.2 (2 + ((n1 + 8) % 9 + 9 - j) % 9) (by omega) (by omega))))
  · by_cases e0 : q = 0
    · subst e0; exact k1
    · exact (hp q).tr (hq.2 q (by omega) e0)
theorem forget_ok (hn : n < 9) (x1 : st' 11 1 = nI n) (x2 : st' 11 2 = 0) : HC st' sl' := ⟨n, 0, hn, by omega, x1, x2, fun j j1 j2 => absurd j1 (by omega)⟩
end NAM
