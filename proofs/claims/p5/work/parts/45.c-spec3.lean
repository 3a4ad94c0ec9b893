/-! the reference's tables while it reads -/
def bs (a : Nat) : Nat := if a = 0 then 0 else if a = 1 then 5 else 13
def RT (c : Nat → Nat) (nm : Nat → Nat → Nat) (st : Nat → Nat → Int32) (sl : Nat → Nat → Int64) : Prop :=
  st 3 0 = nI (c 0) ∧ st 3 1 = nI (c 1) ∧ st 3 2 = nI (c 2) ∧ st 3 3 = nI (c 3) ∧ st 0 24 = nI (c 4) ∧ (c 0 ≤ 5 ∧ c 1 ≤ 8 ∧ c 2 ≤ 6 ∧ c 3 ≤ 12 ∧ c 4 ≤ 1) ∧ ∀ a, a < 3 → ∀ i, i < c a → sl 8 (bs a + i) = lN (c7 7 (nm a i)) ∧ V5 (nm a i)
theorem RT.up0 {c : Nat → Nat} {nm : Nat → Nat → Nat} {st : Nat → Nat → Int32} {sl : Nat → Nat → Int64} (h : RT c nm st sl) {k : Nat} {v : Int32} (hk : ¬ k = 24) : RT c nm (up2 st 0 k v) sl := by
  obtain ⟨a0, a1, a2, a3, a4, a5, a6⟩ := h
  have e : ∀ j, up2 st 0 k v 3 j = st 3 j := fun j => up2_ne st v (by omega)
  exact ⟨(e 0).trans a0, (e 1).trans a1, (e 2).trans a2, (e 3).trans a3, (up2_ne st v (by omega)).trans a4, a5, a6⟩
theorem RT.upL0 {c : Nat → Nat} {nm : Nat → Nat → Nat} {st : Nat → Nat → Int32} {sl : Nat → Nat → Int64} (h : RT c nm st sl) {k : Nat} {v : Int64} : RT c nm st (upL sl 0 k v) := by
  obtain ⟨a0, a1, a2, a3, a4, a5, a6⟩ := h
  exact ⟨a0, a1, a2, a3, a4, a5, fun a ha i hi => ⟨(upL_ne sl v (by omega)).trans (a6 a ha i hi).1, (a6 a ha i hi).2⟩⟩
theorem RT.up3 {c : Nat → Nat} {nm : Nat → Nat → Nat} {st : Nat → Nat → Int32} {sl : Nat → Nat → Int64} (h : RT c nm st sl) {k : Nat} {v : Int32} (hk : 4 ≤ k) : RT c nm (up2 st 3 k v) sl := by
  obtain ⟨a0, a1, a2, a3, a4, a5, a6⟩ := h
  exact ⟨(up2_ne st v (by omega)).trans a0, (up2_ne st v (by omega)).trans a1, (up2_ne st v (by omega)).trans a2, (up2_ne st v (by omega)).trans a3, (up2_ne st v (by omega)).trans a4, a5, a6⟩
theorem RT.fr {c : Nat → Nat} {nm : Nat → Nat → Nat} {n : Nat} {st st' : Nat → Nat → Int32} {sl sl' : Nat → Nat → Int64} (h : RT c nm st sl) (hF : FM n st sl st' sl') (hn : n < 3) : RT c nm st' sl' := by
  obtain ⟨a0, a1, a2, a3, a4, a5, a6⟩ := h
  have d3 : ∀ j, dm n 3 j = false := fun j => by
    unfold dm; simp; omega
  have d8 : ∀ j, dm n 8 j = false := fun j => by
    unfold dm; simp; omega
  have d0 : dm n 0 24 = false := by
    unfold dm; simp; omega
  exact ⟨((hF 3 0 (d3 0)).1).trans a0, ((hF 3 1 (d3 1)).1).trans a1, ((hF 3 2 (d3 2)).1).trans a2, ((hF 3 3 (d3 3)).1).trans a3, ((hF 0 24 d0).1).trans a4, a5, fun a ha i hi => ⟨((hF 8 _ (d8 _)).2).trans (a6 a ha i hi).1, (a6 a ha i hi).2⟩⟩
theorem RT.slot {c : Nat → Nat} {nm : Nat → Nat → Nat} {st : Nat → Nat → Int32} {sl : Nat → Nat → Int64} (h : RT c nm st sl) {k : Nat} {v : Int64} (hk : ∀ a, a < 3 → ∀ i, i < c a → ¬ bs a + i = k) : RT c nm st (upL sl 8 k v) := by
  obtain ⟨a0, a1, a2, a3, a4, a5, a6⟩ := h
  exact ⟨a0, a1, a2, a3, a4, a5, fun a ha i hi => ⟨(upL_ne sl v (fun e => hk a ha i hi e.2)).trans (a6 a ha i hi).1, (a6 a ha i hi).2⟩⟩
theorem RT.kn {c : Nat → Nat} {nm : Nat → Nat → Nat} {st : Nat → Nat → Int32} {sl : Nat → Nat → Int64} (h : RT c nm st sl) {a i x : Nat} (ha : a < 3) (hi : i < c a) (hx : V5 x) (e : sl 8 (bs a + i) = lN (c7 7 x)) : nm a i = x := by
  obtain ⟨e1, e2⟩ := h.2.2.2.2.2.2 a ha i hi
  rw [e1] at e
  exact V5.inj e2 hx ((pk_lEQ (by have := e2.lt.2; omega) (by have := hx.lt.2; omega)).mp e)
theorem RT.nk {c : Nat → Nat} {nm : Nat → Nat → Nat} {st : Nat → Nat → Int32} {sl : Nat → Nat → Int64} (h : RT c nm st sl) {a x : Nat} (ha : a < 3) (e : ∀ i, i < c a → ¬ sl 8 (bs a + i) = lN (c7 7 x)) : ∀ i, i < c a → ¬ nm a i = x := fun i hi z => e i hi (by rw [(h.2.2.2.2.2.2 a ha i hi).1, z])
theorem RT.free {c : Nat → Nat} {nm : Nat → Nat → Nat} {st : Nat → Nat → Int32} {sl : Nat → Nat → Int64} (h : RT c nm st sl) {b : Nat} (hb : b < 3) (hm : (b = 0 → c 0 < 5) ∧ (b = 1 → c 1 < 8)) : ∀ a, a < 3 → ∀ i, i < c a → ¬ bs a + i = bs b + c b := by
  have h5 := h.2.2.2.2.2.1
  intro a ha i hi e
  rcases (show a = 0 ∨ a = 1 ∨ a = 2 by omega) with rfl | rfl | rfl <;> rcases (show b = 0 ∨ b = 1 ∨ b = 2 by omega) with rfl | rfl | rfl <;> simp [bs] at e <;> omega
theorem dm_name (j : Nat) : dm 3 8 j = true ∧ dm 4 8 j = true := by
  unfold dm; simp
theorem dm_read (j : Nat) : dm 4 3 j = true := by
  unfold dm; simp
/-! a token's number is small; its word by its code -/
theorem nmb_b {B : Nat → Nat} {q : Nat} : ∀ k, (∀ j, j < k → B (q + j) < 256) → nmb B q k + 24 ≤ 24 * 10 ^ k
  | 0, _ => by
    show 0 + 24 ≤ 24 * 1
    omega
  | k + 1, h => by
    have h1 := nmb_b k (fun j hj => h j (by omega))
    have h2 := h k (by omega)
    show 10 * nmb B q k + (B (q + k) - 48) + 24 ≤ 24 * 10 ^ (k + 1)
    rw [Nat.pow_succ]
    omega
theorem tkv_lt {B : Nat → Nat} {g m p : Nat} {st : Nat → Nat → Int32} (hB : MBt B g m st) (hp : p ≤ g) : tkd B g m p = 3 ∨ tkd B g m p = 4 → tkv B g p < 24000 := by
  intro hd
  obtain ⟨-, -, hg, -, hb⟩ := hB
  have q1 := (tkq_le (B := B) (g := g) (p := p)).2 hp
  unfold tkd at hd
  by_cases c1 : m < g ∧ m ≤ tkq B g p
  · rw [if_pos c1] at hd; omega
  · rw [if_neg c1] at hd
    by_cases c2 : g ≤ tkq B g p
    · rw [if_pos c2] at hd; omega
    · rw [if_neg c2] at hd
      by_cases c3 : qL (B (tkq B g p)) ∨ qD (B (tkq B g p))
      · rw [if_pos c3] at hd
        have hn := tkn_pos (B := B) (g := g) (p := p) (by omega) hg c2 c3
        have he := (tke_le (B := B) (g := g) (p := p)).2 hp
        by_cases c4 : cnL B (tkq B g p) (tkn B g p) = tkn B g p ∧ tkn B g p ≤ 7
        · rw [if_pos c4] at hd; omega
        · rw [if_neg c4] at hd
          by_cases c5 : cnL B (tkq B g p) (tkn B g p) = 0 ∧ tkn B g p ≤ 3
          · unfold tkv; rw [if_pos c3]
            have h1 := nmb_b (B := B) (q := tkq B g p) (tkn B g p) (fun j hj => (hb _ (by omega)).2)
            have h2 : 10 ^ tkn B g p ≤ 10 ^ 3 := Nat.pow_le_pow_right (by decide) c5.2
            omega
          · rw [if_neg c5] at hd; omega
      · unfold tkv; rw [if_neg c3]
        have := (hb (tkq B g p) (by omega)).2
        omega
theorem tkw_n {B : Nat → Nat} {g m p : Nat} (h : ¬ tkd B g m p = 2) : tkw B g m p = 25 := by unfold tkw; rw [if_neg h]
theorem tkw_y {B : Nat → Nat} {g m p : Nat} (h : tkd B g m p = 2) : tkw B g m p = kwi 24 (tkc B g p) := by unfold tkw; rw [if_pos h]
theorem tkw_d {B : Nat → Nat} {g m p : Nat} (h : ¬ tkw B g m p = 25) : tkd B g m p = 2 := Classical.byContradiction (fun z => h (tkw_n z))
theorem tkw_k {B : Nat → Nat} {g m p : Nat} (hp : p ≤ g) (hg : g < 941) (h : tkd B g m p = 2) {w w' : Int64} (hw : w = lN (c7 7 (tkc B g p))) {k : Nat} (hk : k < 24) (hw' : w' = lN (c7 7 (kw5 k))) : w = w' ↔ tkw B g m p = k := by
  have v1 := tkc_V (p := p) (m := m) (by omega) hg h
  have v2 := kw_V hk
  rw [tkw_y h, kwi_eq hk, hw, hw', pk_lEQ (by have := v1.lt.2; omega) (by have := v2.lt.2; omega)]
  exact ⟨fun e => V5.inj v1 v2 e, fun e => by rw [e]⟩
def bdk (t k : Nat) : Nat := if t = 1 then 1 else k
theorem bdk_n {t k : Nat} (h : ¬ t = 1) : bdk t k = k := by unfold bdk; rw [if_neg h]
theorem bdk_y {t k : Nat} (h : t = 1) : bdk t k = 1 := by unfold bdk; rw [if_pos h]
theorem bdk_1 {t : Nat} : bdk t 1 = 1 := by unfold bdk; split <;> rfl
theorem dm_8 {n : Nat} (h : n < 3) (j : Nat) : dm n 8 j = false := by
  unfold dm; simp; omega
theorem kna_t {c : Nat → Nat} {nm : Nat → Nat → Nat} {x a : Nat} (ha : a < 3) (h : knw (nm a) x (c a) = true) : kna c nm x = true := by
  unfold kna
  rcases (show a = 0 ∨ a = 1 ∨ a = 2 by omega) with rfl | rfl | rfl
  · rw [h, Bool.true_or, Bool.true_or]
  · rw [h, Bool.or_true, Bool.true_or]
  · rw [h, Bool.or_true]
theorem kna_f {c : Nat → Nat} {nm : Nat → Nat → Nat} {x : Nat} (h0 : knw (nm 0) x (c 0) = false) (h1 : knw (nm 1) x (c 1) = false) (h2 : knw (nm 2) x (c 2) = false) : ¬ kna c nm x = true := by
  unfold kna
  rw [h0, h1, h2]; decide
theorem uN_s (c : Nat → Nat) (k v : Nat) : uN c k v k = v := by unfold uN; rw [if_pos rfl]
theorem uN_n (c : Nat → Nat) {k j : Nat} (v : Nat) (h : ¬ j = k) : uN c k v j = c j := by unfold uN; rw [if_neg h]
theorem RT.inc {c : Nat → Nat} {nm : Nat → Nat → Nat} {st : Nat → Nat → Int32} {sl : Nat → Nat → Int64} (h : RT c nm st sl) {a x : Nat} (ha : a < 3) (hm : (a = 0 → c 0 < 5) ∧ (a = 1 → c 1 < 8) ∧ (a = 2 → c 2 < 6)) (hx : V5 x) (hs : sl 8 (bs a + c a) = lN (c7 7 x)) : RT (uN c a (c a + 1)) (uM nm a (c a) x) (up2 st 3 a (nI (c a + 1))) sl := by
  obtain ⟨a0, a1, a2, a3, a4, a5, a6⟩ := h
  have e : ∀ k, k < 4 → st 3 k = nI (c k) := fun k hk => by
    match k, hk with
    | 0, _ => exact a0
    | 1, _ => exact a1
    | 2, _ => exact a2
    | 3, _ => exact a3
    | k + 4, h => exact absurd h (by omega)
  have f : ∀ k, k < 4 → up2 st 3 a (nI (c a + 1)) 3 k = nI (uN c a (c a + 1) k) := fun k hk => by
    by_cases z : k = a
    · subst z; rw [uN_s]; exact up2_same st 3 k _
    · rw [uN_n c _ z, up2_ne st _ (by omega)]; exact e k hk
  refine ⟨f 0 (by omega), f 1 (by omega), f 2 (by omega), f 3 (by omega), ?_, ?_, fun b hb i hi => ?_⟩
  · rw [uN_n c _ (show ¬ 4 = a by omega), up2_ne st _ (by omega)]; exact a4
  · rcases (show a = 0 ∨ a = 1 ∨ a = 2 by omega) with rfl | rfl | rfl
    · rw [uN_s, uN_n c _ (show ¬ 1 = 0 by omega), uN_n c _ (show ¬ 2 = 0 by omega), uN_n c _ (show ¬ 3 = 0 by omega), uN_n c _ (show ¬ 4 = 0 by omega)]; omega
    · rw [uN_s, uN_n c _ (show ¬ 0 = 1 by omega), uN_n c _ (show ¬ 2 = 1 by omega), uN_n c _ (show ¬ 3 = 1 by omega), uN_n c _ (show ¬ 4 = 1 by omega)]; omega
    · rw [uN_s, uN_n c _ (show ¬ 0 = 2 by omega), uN_n c _ (show ¬ 1 = 2 by omega), uN_n c _ (show ¬ 3 = 2 by omega), uN_n c _ (show ¬ 4 = 2 by omega)]; omega
  · unfold uM
    by_cases z : b = a
    · subst z
      rw [if_pos rfl]
      rw [uN_s] at hi
      by_cases y : i = c b
      · subst y; rw [uN_s]; exact ⟨hs, hx⟩
      · rw [uN_n (nm b) x y]; exact a6 b hb i (by omega)
    · rw [if_neg z]
      rw [uN_n c _ z] at hi
      exact a6 b hb i hi
theorem RT.inc3 {c : Nat → Nat} {nm : Nat → Nat → Nat} {st : Nat → Nat → Int32} {sl : Nat → Nat → Int64} (h : RT c nm st sl) (hm : c 3 < 12) : RT (uN c 3 (c 3 + 1)) nm (up2 st 3 3 (nI (c 3 + 1))) sl := by
  obtain ⟨a0, a1, a2, a3, a4, a5, a6⟩ := h
  refine ⟨?_, ?_, ?_, ?_, ?_, ?_, fun b hb i hi => ?_⟩
  · rw [uN_n c _ (show ¬ 0 = 3 by omega), up2_ne st _ (by omega)]; exact a0
  · rw [uN_n c _ (show ¬ 1 = 3 by omega), up2_ne st _ (by omega)]; exact a1
  · rw [uN_n c _ (show ¬ 2 = 3 by omega), up2_ne st _ (by omega)]; exact a2
  · rw [uN_s]; exact up2_same st 3 3 _
  · rw [uN_n c _ (show ¬ 4 = 3 by omega), up2_ne st _ (by omega)]; exact a4
  · rw [uN_s, uN_n c _ (show ¬ 0 = 3 by omega), uN_n c _ (show ¬ 1 = 3 by omega), uN_n c _ (show ¬ 2 = 3 by omega), uN_n c _ (show ¬ 4 = 3 by omega)]; omega
  · rw [uN_n c _ (show ¬ b = 3 by omega)] at hi; exact a6 b hb i hi
theorem RT.sgn {c : Nat → Nat} {nm : Nat → Nat → Nat} {st : Nat → Nat → Int32} {sl : Nat → Nat → Int64} (h : RT c nm st sl) : RT (uN c 4 1) nm (up2 st 0 24 1) sl := by
  obtain ⟨a0, a1, a2, a3, a4, a5, a6⟩ := h
  refine ⟨?_, ?_, ?_, ?_, ?_, ?_, fun b hb i hi => ?_⟩
  · rw [uN_n c _ (show ¬ 0 = 4 by omega), up2_ne st _ (by omega)]; exact a0
  · rw [uN_n c _ (show ¬ 1 = 4 by omega), up2_ne st _ (by omega)]; exact a1
  · rw [uN_n c _ (show ¬ 2 = 4 by omega), up2_ne st _ (by omega)]; exact a2
  · rw [uN_n c _ (show ¬ 3 = 4 by omega), up2_ne st _ (by omega)]; exact a3
  · rw [uN_s]; exact up2_same st 0 24 _
  · rw [uN_s, uN_n c _ (show ¬ 0 = 4 by omega), uN_n c _ (show ¬ 1 = 4 by omega), uN_n c _ (show ¬ 2 = 4 by omega), uN_n c _ (show ¬ 3 = 4 by omega)]; omega
  · rw [uN_n c _ (show ¬ b = 4 by omega)] at hi; exact a6 b hb i hi
theorem uN_sum {c : Nat → Nat} {a v : Nat} (ha : a < 5) (hv : v = c a + 1) : uN c a v 0 + uN c a v 1 + uN c a v 2 + uN c a v 3 + uN c a v 4 = c 0 + c 1 + c 2 + c 3 + c 4 + 1 := by
  rcases (show a = 0 ∨ a = 1 ∨ a = 2 ∨ a = 3 ∨ a = 4 by omega) with rfl | rfl | rfl | rfl | rfl
  · rw [uN_s, uN_n c v (show ¬ 1 = 0 by omega), uN_n c v (show ¬ 2 = 0 by omega), uN_n c v (show ¬ 3 = 0 by omega), uN_n c v (show ¬ 4 = 0 by omega)]; omega
  · rw [uN_s, uN_n c v (show ¬ 0 = 1 by omega), uN_n c v (show ¬ 2 = 1 by omega), uN_n c v (show ¬ 3 = 1 by omega), uN_n c v (show ¬ 4 = 1 by omega)]; omega
  · rw [uN_s, uN_n c v (show ¬ 0 = 2 by omega), uN_n c v (show ¬ 1 = 2 by omega), uN_n c v (show ¬ 3 = 2 by omega), uN_n c v (show ¬ 4 = 2 by omega)]; omega
  · rw [uN_s, uN_n c v (show ¬ 0 = 3 by omega), uN_n c v (show ¬ 1 = 3 by omega), uN_n c v (show ¬ 2 = 3 by omega), uN_n c v (show ¬ 4 = 3 by omega)]; omega
  · rw [uN_s, uN_n c v (show ¬ 0 = 4 by omega), uN_n c v (show ¬ 1 = 4 by omega), uN_n c v (show ¬ 2 = 4 by omega), uN_n c v (show ¬ 3 = 4 by omega)]; omega
theorem pAll_0 {B : Nat → Nat} {g m p l : Nat} {c : Nat → Nat} {nm : Nat → Nat → Nat} (h0 : tkd B g m p = 0) (hl : l < 900) : pAll B g m (900 - l) p c nm l = ((0, p, c, nm), l) := by
  obtain ⟨n, hn⟩ : ∃ n, 900 - l = n + 1 := ⟨900 - l - 1, by omega⟩
  rw [hn]
  show (if tkd B g m p = 0 then ((0, p, c, nm), l) else _) = _
  rw [if_pos h0]
theorem pAll_y {B : Nat → Nat} {g m p l q : Nat} {c c1 : Nat → Nat} {nm n1 : Nat → Nat → Nat} (h0 : ¬ tkd B g m p = 0) (ha : lAny B g m p c nm = (0, q, c1, n1)) (hl : l < 900) : pAll B g m (900 - l) p c nm l = pAll B g m (900 - (l + 1)) q c1 n1 (l + 1) := by
  obtain ⟨n, hn⟩ : ∃ n, 900 - l = n + 1 := ⟨900 - l - 1, by omega⟩
  rw [hn, show 900 - (l + 1) = n by omega]
  show (if tkd B g m p = 0 then ((0, p, c, nm), l) else if (lAny B g m p c nm).1 = 0 then pAll B g m n (lAny B g m p c nm).2.1 (lAny B g m p c nm).2.2.1 (lAny B g m p c nm).2.2.2 (l + 1) else (lAny B g m p c nm, 0)) = _
  rw [if_neg h0, ha, if_pos rfl]
theorem pAll_f {B : Nat → Nat} {g m p l f a : Nat} {c : Nat → Nat} {nm : Nat → Nat → Nat} (h0 : ¬ tkd B g m p = 0) (ha : lAny B g m p c nm = fl f a) (hf : 1 ≤ f) (hl : l < 900) : pAll B g m (900 - l) p c nm l = (fl f a, 0) := by
  obtain ⟨n, hn⟩ : ∃ n, 900 - l = n + 1 := ⟨900 - l - 1, by omega⟩
  rw [hn]
  show (if tkd B g m p = 0 then ((0, p, c, nm), l) else if (lAny B g m p c nm).1 = 0 then pAll B g m n (lAny B g m p c nm).2.1 (lAny B g m p c nm).2.2.1 (lAny B g m p c nm).2.2.2 (l + 1) else (lAny B g m p c nm, 0)) = _
  rw [if_neg h0, ha, if_neg (show ¬ (fl f a).1 = 0 from (show ¬ f = 0 by omega))]
theorem pAns_f {f a n : Nat} (hf : 1 ≤ f) : pAns (fl f a, n) = -1 - nI a := by
  show (if f = 0 then nI n else -1 - nI a) = _
  rw [if_neg (by omega)]
theorem pAns_0 {p n : Nat} {c : Nat → Nat} {nm : Nat → Nat → Nat} : pAns ((0, p, c, nm), n) = nI n := by
  show (if 0 = 0 then nI n else -1 - nI p) = _
  rw [if_pos rfl]
