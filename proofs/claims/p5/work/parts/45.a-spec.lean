/-! the tape's text as both read it: signs, runs, tokens -/
abbrev qL (c : Nat) : Prop := 97 ≤ c ∧ c ≤ 122
abbrev qD (c : Nat) : Prop := 48 ≤ c ∧ c ≤ 57
abbrev qM (c : Nat) : Prop := c = 59 ∨ c = 60 ∨ c = 61 ∨ c = 62 ∨ c = 40 ∨ c = 41
abbrev qB (c : Nat) : Prop := c = 32 ∨ c = 10
def skp (B : Nat → Nat) (g : Nat) : Nat → Nat → Nat
  | 0, p => p
  | n + 1, p => if p < g ∧ qB (B p) then skp B g n (p + 1) else p
def rne (B : Nat → Nat) (g : Nat) : Nat → Nat → Nat
  | 0, p => p
  | n + 1, p => if p < g ∧ (qL (B p) ∨ qD (B p)) then rne B g n (p + 1) else p
def cnL (B : Nat → Nat) (q : Nat) : Nat → Nat
  | 0 => 0
  | k + 1 => cnL B q k + if qL (B (q + k)) then 1 else 0
def nmb (B : Nat → Nat) (q : Nat) : Nat → Nat
  | 0 => 0
  | k + 1 => 10 * nmb B q k + (B (q + k) - 48)
def cd5 (B : Nat → Nat) (q : Nat) : Nat → Nat
  | 0 => 0
  | k + 1 => 32 * cd5 B q k + (B (q + k) - 96)
def cd7 (B : Nat → Nat) (q : Nat) : Nat → Nat
  | 0 => 0
  | k + 1 => 27 * cd7 B q k + (B (q + k) - 96)
def c7 : Nat → Nat → Nat
  | 0, _ => 0
  | f + 1, x => if x = 0 then 0 else 27 * c7 f (x / 32) + x % 32
theorem skp_y {B : Nat → Nat} {g p m : Nat} (h : p < g ∧ qB (B p)) (hm : p < m) : skp B g (m - p) p = skp B g (m - (p + 1)) (p + 1) := by
  obtain ⟨n, hn⟩ : ∃ n, m - p = n + 1 := ⟨m - p - 1, by omega⟩
  rw [hn, show m - (p + 1) = n by omega]
  show (if p < g ∧ qB (B p) then skp B g n (p + 1) else p) = _
  rw [if_pos h]
theorem skp_n {B : Nat → Nat} {g p n : Nat} (h : ¬ (p < g ∧ qB (B p))) : skp B g n p = p := by
  cases n with
  | zero => rfl
  | succ n =>
    show (if p < g ∧ qB (B p) then skp B g n (p + 1) else p) = _
    rw [if_neg h]
theorem rne_y {B : Nat → Nat} {g p m : Nat} (h : p < g ∧ (qL (B p) ∨ qD (B p))) (hm : p < m) : rne B g (m - p) p = rne B g (m - (p + 1)) (p + 1) := by
  obtain ⟨n, hn⟩ : ∃ n, m - p = n + 1 := ⟨m - p - 1, by omega⟩
  rw [hn, show m - (p + 1) = n by omega]
  show (if p < g ∧ (qL (B p) ∨ qD (B p)) then rne B g n (p + 1) else p) = _
  rw [if_pos h]
theorem rne_n {B : Nat → Nat} {g p n : Nat} (h : ¬ (p < g ∧ (qL (B p) ∨ qD (B p)))) : rne B g n p = p := by
  cases n with
  | zero => rfl
  | succ n =>
    show (if p < g ∧ (qL (B p) ∨ qD (B p)) then rne B g n (p + 1) else p) = _
    rw [if_neg h]
theorem skp_le {B : Nat → Nat} {g : Nat} : ∀ (n p : Nat), p ≤ skp B g n p ∧ (p ≤ g → skp B g n p ≤ g)
  | 0, p => ⟨Nat.le_refl p, fun h => h⟩
  | n + 1, p => by
    show p ≤ (if p < g ∧ qB (B p) then skp B g n (p + 1) else p) ∧ (p ≤ g → (if p < g ∧ qB (B p) then skp B g n (p + 1) else p) ≤ g)
    by_cases h : p < g ∧ qB (B p)
    · rw [if_pos h]
      have := skp_le (B := B) (g := g) n (p + 1)
      exact ⟨by omega, fun _ => this.2 (by omega)⟩
    · rw [if_neg h]
      exact ⟨Nat.le_refl p, fun h => h⟩
theorem rne_le {B : Nat → Nat} {g : Nat} : ∀ (n p : Nat), p ≤ rne B g n p ∧ (p ≤ g → rne B g n p ≤ g)
  | 0, p => ⟨Nat.le_refl p, fun h => h⟩
  | n + 1, p => by
    show p ≤ (if p < g ∧ (qL (B p) ∨ qD (B p)) then rne B g n (p + 1) else p) ∧ (p ≤ g → (if p < g ∧ (qL (B p) ∨ qD (B p)) then rne B g n (p + 1) else p) ≤ g)
    by_cases h : p < g ∧ (qL (B p) ∨ qD (B p))
    · rw [if_pos h]
      have := rne_le (B := B) (g := g) n (p + 1)
      exact ⟨by omega, fun _ => this.2 (by omega)⟩
    · rw [if_neg h]
      exact ⟨Nat.le_refl p, fun h => h⟩
theorem cnL_le {B : Nat → Nat} {q : Nat} : ∀ k, cnL B q k ≤ k
  | 0 => Nat.le_refl 0
  | k + 1 => by
    have := cnL_le (B := B) (q := q) k
    show cnL B q k + (if qL (B (q + k)) then 1 else 0) ≤ k + 1
    by_cases h : qL (B (q + k))
    · rw [if_pos h]; omega
    · rw [if_neg h]; omega
theorem cnL_y {B : Nat → Nat} {q k : Nat} (h : qL (B (q + k))) : cnL B q (k + 1) = cnL B q k + 1 := by
  show cnL B q k + (if qL (B (q + k)) then 1 else 0) = _
  rw [if_pos h]
theorem cnL_n {B : Nat → Nat} {q k : Nat} (h : ¬ qL (B (q + k))) : cnL B q (k + 1) = cnL B q k := by
  show cnL B q k + (if qL (B (q + k)) then 1 else 0) = _
  rw [if_neg h, Nat.add_zero]
theorem cnL_all {B : Nat → Nat} {q : Nat} : ∀ k, cnL B q k = k → ∀ j, j < k → qL (B (q + j))
  | 0, _, j, hj => absurd hj (Nat.not_lt_zero j)
  | k + 1, h, j, hj => by
    have hle := cnL_le (B := B) (q := q) k
    by_cases hk : qL (B (q + k))
    · rw [cnL_y hk] at h
      by_cases e : j = k
      · rw [e]; exact hk
      · exact cnL_all k (by omega) j (by omega)
    · rw [cnL_n hk] at h
      omega
theorem cd5_lt {B : Nat → Nat} {q : Nat} : ∀ k, (∀ j, j < k → qL (B (q + j))) → cd5 B q k < 32 ^ k
  | 0, _ => Nat.lt_succ_self 0
  | k + 1, h => by
    have h1 := cd5_lt k (fun j hj => h j (by omega))
    have h2 := h k (by omega)
    show 32 * cd5 B q k + (B (q + k) - 96) < 32 ^ (k + 1)
    rw [Nat.pow_succ]
    omega
theorem cd7_lt {B : Nat → Nat} {q : Nat} : ∀ k, (∀ j, j < k → qL (B (q + j))) → cd7 B q k < 27 ^ k
  | 0, _ => Nat.lt_succ_self 0
  | k + 1, h => by
    have h1 := cd7_lt k (fun j hj => h j (by omega))
    have h2 := h k (by omega)
    show 27 * cd7 B q k + (B (q + k) - 96) < 27 ^ (k + 1)
    rw [Nat.pow_succ]
    omega
theorem c7_cd {B : Nat → Nat} {q : Nat} : ∀ k f, k ≤ f → (∀ j, j < k → qL (B (q + j))) → c7 f (cd5 B q k) = cd7 B q k
  | 0, 0, _, _ => rfl
  | 0, f + 1, _, _ => rfl
  | k + 1, 0, h, _ => absurd h (by omega)
  | k + 1, f + 1, h, ha => by
    have h2 := ha k (by omega)
    have h1 := c7_cd k f (by omega) (fun j hj => ha j (by omega))
    show (if 32 * cd5 B q k + (B (q + k) - 96) = 0 then 0 else 27 * c7 f ((32 * cd5 B q k + (B (q + k) - 96)) / 32) + (32 * cd5 B q k + (B (q + k) - 96)) % 32) = 27 * cd7 B q k + (B (q + k) - 96)
    rw [if_neg (by omega), show (32 * cd5 B q k + (B (q + k) - 96)) / 32 = cd5 B q k by omega, show (32 * cd5 B q k + (B (q + k) - 96)) % 32 = B (q + k) - 96 by omega, h1]
theorem cd7_pos {B : Nat → Nat} {q k : Nat} (h : qL (B (q + k))) : 0 < cd7 B q (k + 1) := by
  show 0 < 27 * cd7 B q k + (B (q + k) - 96)
  omega
theorem cd7_inj {B D : Nat → Nat} {q p : Nat} : ∀ k m, (∀ j, j < k → qL (B (q + j))) → (∀ j, j < m → qL (D (p + j))) → cd7 B q k = cd7 D p m → k = m ∧ ∀ j, j < k → B (q + j) = D (p + j)
  | 0, 0, _, _, _ => ⟨rfl, fun j hj => absurd hj (Nat.not_lt_zero j)⟩
  | 0, m + 1, _, h2, e => by
    have := cd7_pos (h2 m (by omega))
    have e0 : cd7 B q 0 = 0 := rfl
    omega
  | k + 1, 0, h1, _, e => by
    have := cd7_pos (h1 k (by omega))
    have e0 : cd7 D p 0 = 0 := rfl
    omega
  | k + 1, m + 1, h1, h2, e => by
    have e : 27 * cd7 B q k + (B (q + k) - 96) = 27 * cd7 D p m + (D (p + m) - 96) := e
    have a1 := h1 k (by omega)
    have a2 := h2 m (by omega)
    obtain ⟨rfl, hj⟩ := cd7_inj k m (fun j hj => h1 j (by omega)) (fun j hj => h2 j (by omega)) (by omega)
    refine ⟨rfl, fun j hj2 => ?_⟩
    by_cases ej : j = k
    · rw [ej]; omega
    · exact hj j (by omega)
theorem cd5_eq {B D : Nat → Nat} {q p : Nat} : ∀ k, (∀ j, j < k → B (q + j) = D (p + j)) → cd5 B q k = cd5 D p k
  | 0, _ => rfl
  | k + 1, h => by
    show 32 * cd5 B q k + (B (q + k) - 96) = 32 * cd5 D p k + (D (p + k) - 96)
    rw [cd5_eq k (fun j hj => h j (by omega)), h k (by omega)]
theorem cd5_inj {B D : Nat → Nat} {q p : Nat} : ∀ k m, (∀ j, j < k → qL (B (q + j))) → (∀ j, j < m → qL (D (p + j))) → cd5 B q k = cd5 D p m → k = m ∧ ∀ j, j < k → B (q + j) = D (p + j)
  | 0, 0, _, _, _ => ⟨rfl, fun j hj => absurd hj (Nat.not_lt_zero j)⟩
  | 0, m + 1, _, h2, e => by
    have h3 := h2 m (by omega)
    have e0 : 0 = 32 * cd5 D p m + (D (p + m) - 96) := e
    omega
  | k + 1, 0, h1, _, e => by
    have h3 := h1 k (by omega)
    have e0 : 32 * cd5 B q k + (B (q + k) - 96) = 0 := e
    omega
  | k + 1, m + 1, h1, h2, e => by
    have e : 32 * cd5 B q k + (B (q + k) - 96) = 32 * cd5 D p m + (D (p + m) - 96) := e
    have a1 := h1 k (by omega)
    have a2 := h2 m (by omega)
    obtain ⟨rfl, hj⟩ := cd5_inj k m (fun j hj => h1 j (by omega)) (fun j hj => h2 j (by omega)) (by omega)
    refine ⟨rfl, fun j hj2 => ?_⟩
    by_cases ej : j = k
    · rw [ej]; omega
    · exact hj j (by omega)
/-! names: codes that a run of one to seven letters has -/
def V5 (x : Nat) : Prop := ∃ (D : Nat → Nat) (k : Nat), 1 ≤ k ∧ k ≤ 7 ∧ (∀ j, j < k → qL (D (0 + j))) ∧ x = cd5 D 0 k
theorem V5.of {B : Nat → Nat} {q k : Nat} (h1 : 1 ≤ k) (h2 : k ≤ 7) (h : ∀ j, j < k → qL (B (q + j))) : V5 (cd5 B q k) :=
  ⟨fun j => B (q + j), k, h1, h2, fun j hj => by rw [Nat.zero_add]; exact h j hj, cd5_eq k (fun j _ => by rw [Nat.zero_add])⟩
theorem V5.inj {x y : Nat} (hx : V5 x) (hy : V5 y) (h : c7 7 x = c7 7 y) : x = y := by
  obtain ⟨D, k, k1, k2, kl, rfl⟩ := hx
  obtain ⟨E, m, m1, m2, ml, rfl⟩ := hy
  rw [c7_cd k 7 k2 kl, c7_cd m 7 m2 ml] at h
  obtain ⟨rfl, hj⟩ := cd7_inj k m kl ml h
  exact cd5_eq k hj
theorem V5.lt {x : Nat} (hx : V5 x) : x < 2 ^ 35 ∧ c7 7 x < 2 ^ 35 := by
  obtain ⟨D, k, k1, k2, kl, rfl⟩ := hx
  rw [c7_cd k 7 k2 kl]
  have a := cd5_lt k kl
  have b := cd7_lt k kl
  have c : 32 ^ k ≤ 32 ^ 7 := Nat.pow_le_pow_right (by decide) k2
  have d : 27 ^ k ≤ 27 ^ 7 := Nat.pow_le_pow_right (by decide) k2
  have e : 32 ^ 7 = 2 ^ 35 := by decide
  have f : 27 ^ 7 < 2 ^ 35 := by decide
  omega
/-! the words -/
def kwT : List (List Nat) := [[112, 108, 97, 99, 101], [102, 101, 110, 99, 101, 100], [112, 101, 114, 115, 111, 110], [100, 111, 103], [102, 114, 101, 101], [115, 105, 103, 110], [97, 108, 108, 111, 119], [102, 111, 114, 98, 105, 100], [102, 101, 110, 99, 101], [104, 101, 108, 100], [108, 111, 111, 115, 101], [99, 111, 109, 101, 115], [100, 97, 121], [111, 114], [97, 110, 100], [110, 111, 116], [97, 119, 97, 121], [111, 119, 110, 101, 114], [109, 101, 101, 116, 115], [97, 116], [102, 114, 105, 103, 104, 116, 115], [98, 105, 116, 101, 115], [103, 111, 111, 100], [110, 117, 109, 98, 101, 114]]
def kwB (i : Nat) : Nat → Nat := fun j => (kwT.getD i []).getD j 0
def kwL (i : Nat) : Nat := (kwT.getD i []).length
def kw5 (i : Nat) : Nat := cd5 (kwB i) 0 (kwL i)
theorem kw_let : ∀ i, i < 24 → ∀ j, j < kwL i → qL (kwB i (0 + j)) := by decide +kernel
theorem kw_len : ∀ i, i < 24 → 1 ≤ kwL i ∧ kwL i ≤ 7 := by decide +kernel
theorem kw_inj : ∀ i, i < 24 → ∀ j, j < 24 → kw5 i = kw5 j → i = j := by decide +kernel
theorem kw_V {i : Nat} (h : i < 24) : V5 (kw5 i) := V5.of (kw_len i h).1 (kw_len i h).2 (kw_let i h)
def kwi : Nat → Nat → Nat
  | 0, _ => 24
  | n + 1, x => if x = kw5 (23 - n) then 23 - n else kwi n x
theorem kwi_y : ∀ n x i, i < 24 → 24 - n ≤ i → x = kw5 i → n ≤ 24 → kwi n x = i
  | 0, x, i, h1, h2, _, _ => absurd h1 (by omega)
  | n + 1, x, i, h1, h2, e, hn => by
    show (if x = kw5 (23 - n) then 23 - n else kwi n x) = i
    by_cases h : x = kw5 (23 - n)
    · rw [if_pos h]; exact kw_inj _ (by omega) _ h1 (h.symm.trans e)
    · rw [if_neg h]
      refine kwi_y n x i h1 ?_ e (by omega)
      have : i ≠ 23 - n := fun z => h (by rw [← z]; exact e)
      omega
theorem kwi_n : ∀ n x, (∀ i, i < 24 → ¬ x = kw5 i) → n ≤ 24 → kwi n x = 24
  | 0, _, _, _ => rfl
  | n + 1, x, h, hn => by
    show (if x = kw5 (23 - n) then 23 - n else kwi n x) = 24
    rw [if_neg (h _ (by omega))]
    exact kwi_n n x h (by omega)
theorem kwi_le (x : Nat) : kwi 24 x ≤ 24 := by
  by_cases h : ∃ i, i < 24 ∧ x = kw5 i
  · obtain ⟨i, h1, h2⟩ := h
    rw [kwi_y 24 x i h1 (by omega) h2 (by omega)]; omega
  · rw [kwi_n 24 x (fun i h1 h2 => h ⟨i, h1, h2⟩) (by omega)]; omega
theorem kwi_eq {x i : Nat} (h : i < 24) : kwi 24 x = i ↔ x = kw5 i := by
  constructor
  · intro e
    by_cases h2 : ∃ i, i < 24 ∧ x = kw5 i
    · obtain ⟨j, h3, h4⟩ := h2
      rw [kwi_y 24 x j h3 (by omega) h4 (by omega)] at e
      rw [← e]; exact h4
    · rw [kwi_n 24 x (fun i h1 h3 => h2 ⟨i, h1, h3⟩) (by omega)] at e
      omega
  · intro e
    exact kwi_y 24 x i h (by omega) e (by omega)
/-! the token that is found from p -/
def tkq (B : Nat → Nat) (g p : Nat) : Nat := skp B g (941 - p) p
def tke (B : Nat → Nat) (g p : Nat) : Nat := rne B g (941 - tkq B g p) (tkq B g p)
def tkn (B : Nat → Nat) (g p : Nat) : Nat := tke B g p - tkq B g p
def tkd (B : Nat → Nat) (g m p : Nat) : Nat :=
  if m < g ∧ m ≤ tkq B g p then 1 else if g ≤ tkq B g p then 0
  else if qL (B (tkq B g p)) ∨ qD (B (tkq B g p)) then
    (if cnL B (tkq B g p) (tkn B g p) = tkn B g p ∧ tkn B g p ≤ 7 then 2 else if cnL B (tkq B g p) (tkn B g p) = 0 ∧ tkn B g p ≤ 3 then 3 else 1)
  else if qM (B (tkq B g p)) then 4 else 1
def tkx (B : Nat → Nat) (g m p : Nat) : Nat :=
  if m < g ∧ m ≤ tkq B g p then tkq B g p else if g ≤ tkq B g p then tkq B g p
  else if qL (B (tkq B g p)) ∨ qD (B (tkq B g p)) then tke B g p else tkq B g p + 1
def tka (B : Nat → Nat) (g m p : Nat) : Nat := if m < g ∧ m ≤ tkq B g p then m else tkq B g p
def tkv (B : Nat → Nat) (g p : Nat) : Nat := if qL (B (tkq B g p)) ∨ qD (B (tkq B g p)) then nmb B (tkq B g p) (tkn B g p) else B (tkq B g p)
def tkc (B : Nat → Nat) (g p : Nat) : Nat := cd5 B (tkq B g p) (tkn B g p)
def tkw (B : Nat → Nat) (g m p : Nat) : Nat := if tkd B g m p = 2 then kwi 24 (tkc B g p) else 25
theorem tkq_le {B : Nat → Nat} {g p : Nat} : p ≤ tkq B g p ∧ (p ≤ g → tkq B g p ≤ g) := skp_le _ _
theorem tke_le {B : Nat → Nat} {g p : Nat} : tkq B g p ≤ tke B g p ∧ (p ≤ g → tke B g p ≤ g) := ⟨(rne_le _ _).1, fun h => (rne_le _ _).2 (tkq_le.2 h)⟩
theorem tkx_le {B : Nat → Nat} {g m p : Nat} (h : p ≤ g) : p ≤ tkx B g m p ∧ tkx B g m p ≤ g := by
  have h1 := tkq_le (B := B) (g := g) (p := p)
  have h2 := tke_le (B := B) (g := g) (p := p)
  have h3 := h1.2 h
  have h4 := h2.2 h
  unfold tkx
  by_cases c1 : m < g ∧ m ≤ tkq B g p
  · rw [if_pos c1]; omega
  · rw [if_neg c1]
    by_cases c2 : g ≤ tkq B g p
    · rw [if_pos c2]; omega
    · rw [if_neg c2]
      by_cases c3 : qL (B (tkq B g p)) ∨ qD (B (tkq B g p))
      · rw [if_pos c3]; omega
      · rw [if_neg c3]; omega
theorem tka_le {B : Nat → Nat} {g m p : Nat} (h : p ≤ g) (hg : g < 941) : tka B g m p < 941 := by
  have h1 := tkq_le (B := B) (g := g) (p := p)
  have h3 := h1.2 h
  unfold tka
  by_cases c1 : m < g ∧ m ≤ tkq B g p
  · rw [if_pos c1]; omega
  · rw [if_neg c1]; omega
theorem tkd_lt {B : Nat → Nat} {g m p : Nat} : tkd B g m p < 5 := by
  unfold tkd
  by_cases c1 : m < g ∧ m ≤ tkq B g p
  · rw [if_pos c1]; omega
  · rw [if_neg c1]
    by_cases c2 : g ≤ tkq B g p
    · rw [if_pos c2]; omega
    · rw [if_neg c2]
      by_cases c3 : qL (B (tkq B g p)) ∨ qD (B (tkq B g p))
      · rw [if_pos c3]
        by_cases c4 : cnL B (tkq B g p) (tkn B g p) = tkn B g p ∧ tkn B g p ≤ 7
        · rw [if_pos c4]; omega
        · rw [if_neg c4]
          by_cases c5 : cnL B (tkq B g p) (tkn B g p) = 0 ∧ tkn B g p ≤ 3
          · rw [if_pos c5]; omega
          · rw [if_neg c5]; omega
      · rw [if_neg c3]
        by_cases c4 : qM (B (tkq B g p))
        · rw [if_pos c4]; omega
        · rw [if_neg c4]; omega
/-! a run is not empty, and of its bounds -/
theorem tkn_pos {B : Nat → Nat} {g p : Nat} (h : p < 941) (hg : g < 941) (h1 : ¬ g ≤ tkq B g p) (h2 : qL (B (tkq B g p)) ∨ qD (B (tkq B g p))) : 1 ≤ tkn B g p ∧ tkq B g p + tkn B g p = tke B g p := by
  have e : tke B g p = rne B g (941 - (tkq B g p + 1)) (tkq B g p + 1) := rne_y ⟨by omega, h2⟩ (by omega)
  have := (rne_le (B := B) (g := g) (941 - (tkq B g p + 1)) (tkq B g p + 1)).1
  unfold tkn
  omega
theorem tkd_word {B : Nat → Nat} {g m p : Nat} (h : tkd B g m p = 2) : ¬ g ≤ tkq B g p ∧ (qL (B (tkq B g p)) ∨ qD (B (tkq B g p))) ∧ cnL B (tkq B g p) (tkn B g p) = tkn B g p ∧ tkn B g p ≤ 7 := by
  unfold tkd at h
  by_cases c1 : m < g ∧ m ≤ tkq B g p
  · rw [if_pos c1] at h; omega
  · rw [if_neg c1] at h
    by_cases c2 : g ≤ tkq B g p
    · rw [if_pos c2] at h; omega
    · rw [if_neg c2] at h
      by_cases c3 : qL (B (tkq B g p)) ∨ qD (B (tkq B g p))
      · rw [if_pos c3] at h
        by_cases c4 : cnL B (tkq B g p) (tkn B g p) = tkn B g p ∧ tkn B g p ≤ 7
        · exact ⟨c2, c3, c4⟩
        · rw [if_neg c4] at h
          by_cases c5 : cnL B (tkq B g p) (tkn B g p) = 0 ∧ tkn B g p ≤ 3
          · rw [if_pos c5] at h; omega
          · rw [if_neg c5] at h; omega
      · rw [if_neg c3] at h
        by_cases c4 : qM (B (tkq B g p))
        · rw [if_pos c4] at h; omega
        · rw [if_neg c4] at h; omega
theorem tkc_V {B : Nat → Nat} {g m p : Nat} (hp : p < 941) (hg : g < 941) (h : tkd B g m p = 2) : V5 (tkc B g p) := by
  obtain ⟨h1, h2, h3, h4⟩ := tkd_word h
  exact V5.of (tkn_pos hp hg h1 h2).1 h4 (cnL_all _ h3)
theorem tkw_lt {B : Nat → Nat} {g m p : Nat} : tkw B g m p < 26 := by
  unfold tkw
  by_cases h : tkd B g m p = 2
  · rw [if_pos h]
    have := kwi_le (tkc B g p)
    omega
  · rw [if_neg h]; omega
/-! one sign more -/
theorem cnL_sy {B : Nat → Nat} {q u : Nat} (h : q ≤ u) (hl : qL (B u)) : cnL B q (u + 1 - q) = cnL B q (u - q) + 1 := by
  rw [show u + 1 - q = (u - q) + 1 by omega]
  exact cnL_y (by rw [show q + (u - q) = u by omega]; exact hl)
theorem cnL_sn {B : Nat → Nat} {q u : Nat} (h : q ≤ u) (hl : ¬ qL (B u)) : cnL B q (u + 1 - q) = cnL B q (u - q) := by
  rw [show u + 1 - q = (u - q) + 1 by omega]
  exact cnL_n (by rw [show q + (u - q) = u by omega]; exact hl)
theorem cd7_s {B : Nat → Nat} {q u : Nat} (h : q ≤ u) : cd7 B q (u + 1 - q) = 27 * cd7 B q (u - q) + (B u - 96) := by
  rw [show u + 1 - q = (u - q) + 1 by omega]
  show 27 * cd7 B q (u - q) + (B (q + (u - q)) - 96) = _
  rw [show q + (u - q) = u by omega]
theorem cd5_s {B : Nat → Nat} {q u : Nat} (h : q ≤ u) : cd5 B q (u + 1 - q) = 32 * cd5 B q (u - q) + (B u - 96) := by
  rw [show u + 1 - q = (u - q) + 1 by omega]
  show 32 * cd5 B q (u - q) + (B (q + (u - q)) - 96) = _
  rw [show q + (u - q) = u by omega]
theorem nmb_s {B : Nat → Nat} {q u : Nat} (h : q ≤ u) : nmb B q (u + 1 - q) = 10 * nmb B q (u - q) + (B u - 48) := by
  rw [show u + 1 - q = (u - q) + 1 by omega]
  show 10 * nmb B q (u - q) + (B (q + (u - q)) - 48) = _
  rw [show q + (u - q) = u by omega]
theorem nmb_lt {B : Nat → Nat} {q : Nat} : ∀ k, (∀ j, j < k → B (q + j) ≤ 57) → nmb B q k < 10 ^ k
  | 0, _ => Nat.lt_succ_self 0
  | k + 1, h => by
    have h1 := nmb_lt k (fun j hj => h j (by omega))
    have h2 := h k (by omega)
    show 10 * nmb B q k + (B (q + k) - 48) < 10 ^ (k + 1)
    rw [Nat.pow_succ]
    omega
theorem zz_w27 {x b : Nat} (hb : 96 ≤ b) (hc : b < 256) : 27 * lN x + (nI b).toInt64 - 96 = lN (27 * x + (b - 96)) := by
  rw [nI_l (by omega)]
  show lN 27 * lN x + lN b - lN 96 = _
  rw [lN_mul, lN_add, lN_sub (by omega), show 27 * x + b - 96 = 27 * x + (b - 96) by omega]
theorem zz_d10 {x b : Nat} (hb : 48 ≤ b) (hx : 10 * x + b < 2 ^ 31) : 10 * nI x + nI b - 48 = nI (10 * x + (b - 48)) := by
  show nI 10 * nI x + nI b - nI 48 = _
  rw [nI_mul, nI_add, nI_subN (by omega) (by omega), show 10 * x + b - 48 = 10 * x + (b - 48) by omega]
theorem cnL_pos {B : Nat → Nat} {q : Nat} (h : qL (B q)) : ∀ k, 1 ≤ cnL B q (k + 1)
  | 0 => by rw [cnL_y (B := B) (q := q) (k := 0) (by exact h)]; omega
  | k + 1 => by
    have h1 := cnL_pos h k
    show 1 ≤ cnL B q (k + 1) + (if qL (B (q + (k + 1))) then 1 else 0)
    exact Nat.le_trans h1 (Nat.le_add_right _ _)
theorem cnL_first {B : Nat → Nat} {q : Nat} (n : Nat) : (cnL B q n = n ∧ 1 ≤ n → 97 ≤ B q ∧ B q ≤ 122) ∧ (cnL B q n = 0 ∧ 1 ≤ n → ¬ (97 ≤ B q ∧ B q ≤ 122)) := by
  refine ⟨fun h => ?_, fun h z => ?_⟩
  · exact cnL_all n h.1 0 (by omega)
  · obtain ⟨k, rfl⟩ : ∃ k, n = k + 1 := ⟨n - 1, by omega⟩
    have := cnL_pos (B := B) (q := q) z k
    omega
