/-! THE CLAIM OUT OF ONE WALK OF THE LAW'S BODY. Your part is whole_start (and what it stands on); all else here is the same for every law, but numbers. -/
def R_law : String := "OffTheLeadLaw"
def lw_P (b : Addr) (xs : List Int32) (args : Array Value) (s : State) : Prop := args = #[.ref b] ∧ s.IntsAt b xs ∧ xs.length ≤ 3072 ∧ (Jvm.Cond.and given_1 narrow_1).before args s = true
def lw_Q (_ : Array Value) (s : State) (o : Outcome) (t : State) : Prop := o = .returned (some (.int 1)) ∧ Framed s o t [] 601024 7293034
def lw_Z (below : List Frame) (a : Array Value) (s : State) : State → Prop := fun t => ∃ o, t.status = .running ∧ Ended t below o ∧ lw_Q a s o t
/-- the law's own end, with 1 on the stack, nothing written that was there before, its room as the claim has it -/
theorem lw_ret {p : Program} {l : Launch} {e : Env} {s : State} {m : MethodId} {below : List Frame} {meth : Method} {c : Code} {b : Nat} (hx : p.tables.exec = Jvm.exec) (hb : c.code = code) (hr : meth.sig.returnType = ret) (hlocks : meth.locks = false) {pc : Nat} {H : Heap} {ls : Array Slot} (hdg : decode code pc = .ok (.ireturn, 1)) : W p l e room_1 s m #[Value.ref b] below meth c H [] 601024 7293034 (lw_Z below #[Value.ref b] s) (F0 m pc ls [.int 1]) := by
  intro T hT X
  obtain ⟨fs, hret, hrun, hended, hW, hframe⟩ := X.leave (v := some (.int 1)) (hlocks := hlocks) (fun h => by rw [hr] at h; cases h)
  have hmeth' : T.vm.method? m = some meth := X.method'
  refine ⟨T.setFrames fs, ?_, .returned (some (.int 1)), hrun, hended, rfl, ⟨_, rfl⟩, hW, hframe⟩
  jvm_step X.here [X.here.top, hx, hb, hdg, hmeth', hr, ret, narrow_b1]
  (try refine ⟨rfl, ?_⟩); (try refine ⟨rfl, ?_⟩)
  first | (intro acts; rw [hret _ acts rfl rfl rfl]) | rw [hret _ _ rfl rfl rfl]
  exact Steps.refl _
/-- what holds at the law's entry: the machine, the code, the tables' words (any of lw_tbl by 'hts w (by decide +kernel)'), the script of L ints xs at the cell b, what the Statement gives of the start (any of its parts by flat_of_before) -/
def lw_At (p : Program) (s : State) (m : MethodId) (meth : Method) (c : Code) (b L : Nat) (xs : Nat → Int32) : Prop :=
  p.tables.exec = Jvm.exec ∧ c.code = code ∧ meth.sig.returnType = ret ∧ c.maxLocals = 8 ∧ s.vm.findClass R_law = some m.cls ∧ (∀ w ∈ lw_tbl, w.before #[Value.ref b] s = true) ∧ va_X b L xs s s.heap ∧ b < s.heap.size ∧ meth.locks = false ∧ (Jvm.Cond.and given_1 narrow_1).before #[Value.ref b] s = true
/-! the law: its world, what holds at each of its rounds -/
abbrev LF (s : State) : Nat → Prop := fun q => s.heap.size ≤ q
def LH (dC : Nat → ClassId) (dI : Nat → Nat → Nat) (s : State) (H : Heap) (A : Nat → Nat) (C : Nat → ClassId) (nb : Nat) (st : Nat → Nat → Int32) (sl : Nat → Nat → Int64) (so : Nat → XR) (ar : Nat → Nat) (cy : Nat → ClassId) (st2 : Nat → Nat → Int32) (sl2 : Nat → Nat → Int64) (o : Nat) (yo : ClassId) : Prop :=
  (XN A ∧ MN ar ∧ (∀ r, r < 296 → s.heap.size ≤ A r) ∧ (∀ k, k < 17 → s.heap.size ≤ ar k) ∧ s.heap.size ≤ o ∧ (∀ r k, r < 296 → k < 17 → A r ≠ ar k) ∧ (∀ r, r < 296 → A r ≠ o) ∧ (∀ k, k < 17 → ar k ≠ o)) ∧
  va_P (dC, dI) vwCl (xw A C nb st sl so) H ∧ va_P (dC, dI) vwCl (mw ar cy st2 sl2) H ∧ (∃ g : Nat → Int64, va_P (dC, dI) vwCl [(o, .inl (yo, 1, .inr (.inl g)))] H) ∧ va_K (dC, dI) vwCl (xt C) s ∧ va_K (dC, dI) vwCl (mt cy) s ∧ va_K (dC, dI) vwCl [(yo, .long)] s
/-! class and reference count and name the same -/
def RK (c : Nat → Nat) (nm : Nat → Nat → Nat) (k : Nat) (st : Nat → Nat → Int32) (sl : Nat → Nat → Int64) : Prop := (∀ a, a < 3 → st 4 (373 * k + a) = nI (c a)) ∧ ∀ a, a < 3 → ∀ i, i < c a → sl 9 (19 * k + (bs a + i)) = lN (c7 7 (nm a i)) ∧ V5 (nm a i)
def NT (st : Nat → Nat → Int32) (sl : Nat → Nat → Int64) (st2 : Nat → Nat → Int32) (sl2 : Nat → Nat → Int64) : Prop := HC st sl ∧ (∃ (c : Nat → Nat) (nm : Nat → Nat → Nat), CN c nm st sl 0 ∧ RN c nm st2 sl2) ∧ ∀ k, k < 2 → ∃ (c : Nat → Nat) (nm : Nat → Nat → Nat), CN c nm st sl (11 + k) ∧ RK c nm k st2 sl2
section NTs
variable {st st2 X Y : Nat → Nat → Int32} {sl sl2 x y : Nat → Nat → Int64} {S M T : List Nat} {n k : Nat} {c : Nat → Nat} {nm : Nat → Nat → Nat}
theorem MG.c4 (hM : MG M st2 Y) (h : 22 ∈ M) (k : Nat) {a : Nat} (ha : a < 3) : Y 4 (373 * k + a) = st2 4 (373 * k + a) := hM.2 4 _ (by rw [pcl4c ha]; exact h)
theorem RK.eq (h : RK c nm k st2 sl2) (h1 : ∀ a, a < 3 → Y 4 (373 * k + a) = st2 4 (373 * k + a)) (h2 : ∀ a, a < 3 → ∀ i, i < c a → y 9 (19 * k + (bs a + i)) = sl2 9 (19 * k + (bs a + i))) : RK c nm k Y y := ⟨fun a ha => (h1 a ha).trans (h.1 a ha), fun a ha i hi => ⟨(h2 a ha i hi).trans (h.2 a ha i hi).1, (h.2 a ha i hi).2⟩⟩
theorem NT.gen (h : NT st sl st2 sl2) (hH : HC X x) (hp : ∀ q, q = 0 ∨ q = 11 ∨ q = 12 → PE st sl q X x q) (h2 : ∀ a, a < 3 → Y 2 a = st2 2 a) (h4 : ∀ k, k < 2 → ∀ a, a < 3 → Y 4 (373 * k + a) = st2 4 (373 * k + a)) (h7 : ∀ j, y 7 j = sl2 7 j) (h9 : ∀ j, y 9 j = sl2 9 j) : NT X x Y y := by
  obtain ⟨_, ⟨c, nm, a1, a2⟩, b⟩ := h
  refine ⟨hH, ⟨c, nm, a1.pe (hp 0 (Or.inl rfl)), a2.eq h2 h7⟩, fun k hk => ?_⟩
  obtain ⟨ck, nk, b1, b2⟩ := b k hk
  exact ⟨ck, nk, b1.pe (hp (11 + k) (by omega)), b2.eq (h4 k hk) (fun _ _ _ _ => h9 _)⟩
theorem NT.ni (h : NT st sl st2 sl2) (hN : NI st sl X x) (hM : MG M st2 Y) (h1 : 21 ∈ M) (h2 : 22 ∈ M) (hL : LQ T sl2 y) (h7 : 7 ∈ T) (h9 : 9 ∈ T) : NT X x Y y :=
  h.gen (hN h.1).1 (hN h.1).2 (fun _ ha => hM.c2 h1 ha) (fun k _ _ ha => hM.c4 h2 k ha) (hL 7 h7) (hL 9 h9)
theorem NT.image0 (h : NT st sl st2 sl2) (hN : NI st sl X x) (hM : MG M st2 Y) (h1 : 21 ∈ M) (h4 : ∀ k, k < 2 → ∀ a, a < 3 → Y 4 (373 * k + a) = st2 4 (373 * k + a)) (hL : LQ T sl2 y) (h7 : 7 ∈ T) (h9 : ∀ j, y 9 j = sl2 9 j) : NT X x Y y :=
  h.gen (hN h.1).1 (hN h.1).2 (fun _ ha => hM.c2 h1 ha) h4 (hL 7 h7) h9
theorem NT.restore0 (h : NT st sl st2 sl2) (hN : NI st sl X x) (hM : MG M st2 Y) (h2 : 22 ∈ M) (h0 : ∀ a, a < 3 → Y 2 a = st2 2 a) (hL : LQ T sl2 y) (h9 : 9 ∈ T) (h7 : ∀ j, y 7 j = sl2 7 j) : NT X x Y y :=
  h.gen (hN h.1).1 (hN h.1).2 h0 (fun k _ _ ha => hM.c4 h2 k ha) h7 (hL 9 h9)
theorem NT.park {r : PR} (h : NT st sl st2 sl2) (hp : PKN r st sl X x) (hr : RKN r st2 sl2 Y y) (hM : MG M st2 Y) (h2 : 22 ∈ M) : NT X x Y y := by
  obtain ⟨p1, p2, p3, p4⟩ := hp h.1
  obtain ⟨r1, r2, r3⟩ := hr
  by_cases e : r.1 = 0
  · refine ⟨p1, ⟨r.2.2.1, r.2.2.2, p2 e, r1 e⟩, fun k hk => ?_⟩
    obtain ⟨ck, nk, b1, b2⟩ := h.2.2 k hk
    exact ⟨ck, nk, b1.pe (p4 (11 + k) (by omega)), b2.eq (fun _ ha => hM.c4 h2 k ha) (fun _ _ _ _ => r3 _)⟩
  · exact h.gen p1 (fun q hq => hq.elim (fun z => by rw [z]; exact p3 e) (fun z => p4 q z)) (r2 e).1 (fun k _ _ ha => hM.c4 h2 k ha) (r2 e).2 r3
theorem NT.image (h : NT st sl st2 sl2) (hn : n < 2) (hq : CQ (11 + n) 0 st sl X x) (hG : XG S st X) (h15 : 15 ∈ S) (c1 : ∀ a, a < 3 → Y 4 (373 * n + a) = st2 2 a) (c2 : ∀ k, k < 2 → ¬ k = n → ∀ a, a < 3 → Y 4 (373 * k + a) = st2 4 (373 * k + a)) (d1 : ∀ j, j < 19 → y 9 (19 * n + j) = sl2 7 j) (d2 : ∀ j, ¬ (19 * n ≤ j ∧ j < 19 * n + 19) → y 9 j = sl2 9 j) (hM : MG M st2 Y) (h1 : 21 ∈ M) (hL : LQ T sl2 y) (h7 : 7 ∈ T) : NT X x Y y := by
  obtain ⟨hH, ⟨c, nm, a1, a2⟩, b⟩ := h
  refine ⟨hH.eq (hG.h1 h15) (hG.h2 h15) (fun q h3 _ => hq.2 q (by omega) (by omega)), ⟨c, nm, a1.pe (hq.2 0 (by omega) (by omega)), a2.eq (fun _ ha => hM.c2 h1 ha) (hL 7 h7)⟩, fun k hk => ?_⟩
  by_cases e : k = n
  · subst e
    exact ⟨c, nm, a1.pe hq.1, fun a ha => (c1 a ha).trans (a2.1 a ha), fun a ha i hi => ⟨(d1 _ (bs_lt ha hi a2.2.1)).trans (a2.2.2 a ha i hi).1, (a2.2.2 a ha i hi).2⟩⟩
  · obtain ⟨ck, nk, b1, b2⟩ := b k hk
    exact ⟨ck, nk, b1.pe (hq.2 (11 + k) (by omega) (by omega)), b2.eq (fun a ha => c2 k hk e a ha) (fun a ha i hi => d2 _ (by have := bs_lt ha hi b1.2.1; omega))⟩
theorem NT.restore (h : NT st sl st2 sl2) (hn : n < 2) (hq : CQ 0 (11 + n) st sl X x) (hH : HC X x) (c1 : ∀ a, a < 3 → Y 2 a = st2 4 (373 * n + a)) (d1 : ∀ j, j < 19 → y 7 j = sl2 9 (19 * n + j)) (hM : MG M st2 Y) (h2 : 22 ∈ M) (hL : LQ T sl2 y) (h9 : 9 ∈ T) : NT X x Y y := by
  obtain ⟨_, _, b⟩ := h
  refine ⟨hH, ?_, fun k hk => ?_⟩
  · obtain ⟨ck, nk, b1, b2⟩ := b n hn
    exact ⟨ck, nk, b1.pe hq.1, fun a ha => (c1 a ha).trans (b2.1 a ha), b1.2.1, fun a ha i hi => ⟨(d1 _ (bs_lt ha hi b1.2.1)).trans (b2.2 a ha i hi).1, (b2.2 a ha i hi).2⟩⟩
  · obtain ⟨ck, nk, b1, b2⟩ := b k hk
    exact ⟨ck, nk, b1.pe (hq.2 (11 + k) (by omega) (by omega)), b2.eq (fun _ ha => hM.c4 h2 k ha) (fun _ _ _ _ => hL 9 h9 _)⟩
theorem NT.ct (h : NT st sl st2 sl2) : ∀ a, a < 3 → st (36 + 20 * 0) (5 + a) = st2 2 a := fun a ha => by
  obtain ⟨_, ⟨c, nm, a1, a2⟩, _⟩ := h
  exact (a1.1 a ha).trans (a2.1 a ha).symm
theorem NT.cnt {g : Nat} (h : NT st sl st2 sl2) (g1 : st 1 1 = nI g) (g2 : st2 0 2 = nI g) {v r r' : Int32} (f : (v = 0 → r = st (36 + 20 * 0) 5) ∧ (v = 1 → r = st (36 + 20 * 0) 6) ∧ (v = 2 → r = st (36 + 20 * 0) 7) ∧ (v = 3 → r = st 1 1) ∧ (¬ (v = 0 ∨ v = 1 ∨ v = 2 ∨ v = 3) → r = -1)) (f' : (v = 0 → r' = st2 2 0) ∧ (v = 1 → r' = st2 2 1) ∧ (v = 2 → r' = st2 2 2) ∧ (v = 3 → r' = st2 0 2) ∧ (¬ (v = 0 ∨ v = 1 ∨ v = 2 ∨ v = 3) → r' = -1)) : r = r' := by
  obtain ⟨a0, a1, a2, a3, a4⟩ := f
  obtain ⟨b0, b1, b2, b3, b4⟩ := f'
  by_cases c0 : v = 0
  · exact (a0 c0).trans ((h.ct 0 (by omega)).trans (b0 c0).symm)
  by_cases c1 : v = 1
  · exact (a1 c1).trans ((h.ct 1 (by omega)).trans (b1 c1).symm)
  by_cases c2 : v = 2
  · exact (a2 c2).trans ((h.ct 2 (by omega)).trans (b2 c2).symm)
  by_cases c3 : v = 3
  · exact (a3 c3).trans ((g1.trans g2.symm).trans (b3 c3).symm)
  have c : ¬ (v = 0 ∨ v = 1 ∨ v = 2 ∨ v = 3) := fun z => by
    rcases z with z | z | z | z
    · exact c0 z
    · exact c1 z
    · exact c2 z
    · exact c3 z
  exact (a4 c).trans (b4 c).symm
end NTs
def TB (g : Nat) (st st2 : Nat → Nat → Int32) : Prop := ∃ B : Nat → Nat, ∀ j, j < g → st 2 j = sbt (B j) ∧ st2 1 j = nI (B j) ∧ B j < 256
theorem TB.le {g n : Nat} {st st2 : Nat → Nat → Int32} (h : TB g st st2) (hn : n ≤ g) : TB n st st2 := by
  obtain ⟨B, hB⟩ := h
  exact ⟨B, fun j hj => hB j (by omega)⟩
theorem TB.eq {g : Nat} {st st2 X Y : Nat → Nat → Int32} (h : TB g st st2) (hx : ∀ j, j < g → X 2 j = st 2 j) (hy : ∀ j, j < g → Y 1 j = st2 1 j) : TB g X Y := by
  obtain ⟨B, hB⟩ := h
  exact ⟨B, fun j hj => ⟨(hx j hj).trans (hB j hj).1, (hy j hj).trans (hB j hj).2.1, (hB j hj).2.2⟩⟩
theorem TB.mg {g : Nat} {S M : List Nat} {st st2 X Y : Nat → Nat → Int32} (h : TB g st st2) (hG : XG S st X) (hM : MG M st2 Y) (h1 : 14 ∈ S) (h2 : 20 ∈ M) : TB g X Y := h.eq (fun j _ => hG.2 2 j h1) (fun j _ => hM.2 1 j h2)
theorem TB.feed {g : Nat} {st st2 X Y : Nat → Nat → Int32} {a b c d e : Int32} (h : TB g st st2) (hx : ∀ j, j < g → X 2 j = st 2 j) (hy : ∀ j, j < g → Y 1 j = st2 1 j) (fx : ∀ j, j < 20 → X 2 (g + j) = sbt (fby a b c d e j)) (fy : ∀ j, j < 20 → Y 1 (g + j) = nI (fby a b c d e j)) : TB (g + 20) X Y := by
  obtain ⟨B, hB⟩ := h
  refine ⟨fun j => if j < g then B j else fby a b c d e (j - g), fun j hj => ?_⟩
  show X 2 j = sbt (if j < g then B j else fby a b c d e (j - g)) ∧ Y 1 j = nI (if j < g then B j else fby a b c d e (j - g)) ∧ (if j < g then B j else fby a b c d e (j - g)) < 256
  by_cases hg : j < g
  · rw [if_pos hg]
    exact ⟨(hx j hg).trans (hB j hg).1, (hy j hg).trans (hB j hg).2.1, (hB j hg).2.2⟩
  · rw [if_neg hg]
    have e1 := fx (j - g) (by omega)
    have e2 := fy (j - g) (by omega)
    rw [show g + (j - g) = j by omega] at e1 e2
    exact ⟨e1, e2, fby_lt _ _ _ _ _ _⟩
def LN (ad : Nat → Nat) (nb : Nat) (st : Nat → Nat → Int32) (sl : Nat → Nat → Int64) (so : Nat → XR) (st2 : Nat → Nat → Int32) (sl2 : Nat → Nat → Int64) : Prop :=
  (XI st ∧ OI ad so ∧ BD nb st ∧ SKall ad st so) ∧ (MI st2 ∧ NKn st2 ∧ NKk st2 ∧ NKm st2) ∧ (∃ g, g < 941 ∧ st 1 1 = nI g ∧ st2 0 2 = nI g ∧ TB g st st2) ∧ (∀ j, j < 2 → st 15 j = st2 10 j) ∧ NT st sl st2 sl2 ∧ st 0 16 = st2 0 10
section LHs
variable {dC : Nat → ClassId} {dI : Nat → Nat → Nat} {s : State} {H H1 : Heap} {A : Nat → Nat} {C : Nat → ClassId} {nb : Nat} {st st' : Nat → Nat → Int32} {sl sl' : Nat → Nat → Int64} {so so' : Nat → XR} {ar : Nat → Nat} {cy : Nat → ClassId} {st2 st2' : Nat → Nat → Int32} {sl2 sl2' : Nat → Nat → Int64} {o : Nat} {yo : ClassId} {locs : List Loc}
theorem mw_has {k : Nat} (hk : k < 17) : ∃ e : va_E, (mw ar cy st2 sl2)[k]? = some (ar k, e) := by
  match k, hk with
  | 0, _ => exact ⟨_, rfl⟩
  | 1, _ => exact ⟨_, rfl⟩
  | 2, _ => exact ⟨_, rfl⟩
  | 3, _ => exact ⟨_, rfl⟩
  | 4, _ => exact ⟨_, rfl⟩
  | 5, _ => exact ⟨_, rfl⟩
  | 6, _ => exact ⟨_, rfl⟩
  | 7, _ => exact ⟨_, rfl⟩
  | 8, _ => exact ⟨_, rfl⟩
  | 9, _ => exact ⟨_, rfl⟩
  | 10, _ => exact ⟨_, rfl⟩
  | 11, _ => exact ⟨_, rfl⟩
  | 12, _ => exact ⟨_, rfl⟩
  | 13, _ => exact ⟨_, rfl⟩
  | 14, _ => exact ⟨_, rfl⟩
  | 15, _ => exact ⟨_, rfl⟩
  | 16, _ => exact ⟨_, rfl⟩
  | k + 17, h => exact absurd h (by omega)
theorem LH.alt (h : LH dC dI s H A C nb st sl so ar cy st2 sl2 o yo) {r : Nat} (hr : r < 296) : A r < H.size := (h.2.1 r _ (xw_at hr)).lt
theorem LH.mlt (h : LH dC dI s H A C nb st sl so ar cy st2 sl2 o yo) {k : Nat} (hk : k < 17) : ar k < H.size := by
  obtain ⟨e, he⟩ := mw_has (ar := ar) (cy := cy) (st2 := st2) (sl2 := sl2) hk
  exact (h.2.2.1 k _ he).lt
theorem LH.olt (h : LH dC dI s H A C nb st sl so ar cy st2 sl2 o yo) : o < H.size := by
  obtain ⟨g, hg⟩ := h.2.2.2.1
  exact (hg 0 _ rfl).lt
theorem LH.fx (h : LH dC dI s H A C nb st sl so ar cy st2 sl2 o yo) (hS : va_S (LF s) s.heap H locs) : ∀ q, XA A H.size q → LF s q := fun q z => by
  rcases z with ⟨k, hk, e⟩ | z
  · rw [e]; exact h.1.2.2.1 k hk
  · exact Nat.le_trans hS.1 z
theorem LH.fm (h : LH dC dI s H A C nb st sl so ar cy st2 sl2 o yo) (hS : va_S (LF s) s.heap H locs) : ∀ q, MA ar H.size q → LF s q := fun q z => by
  rcases z with ⟨k, hk, e⟩ | z
  · rw [e]; exact h.1.2.2.2.1 k hk
  · exact Nat.le_trans hS.1 z
theorem LH.fo (h : LH dC dI s H A C nb st sl so ar cy st2 sl2 o yo) (hS : va_S (LF s) s.heap H locs) : ∀ q, lA A o H.size q → LF s q := fun q z => by
  rcases z with z | z
  · exact h.fx hS q z
  · rw [z]; exact h.1.2.2.2.2.1
theorem LH.km (h : LH dC dI s H A C nb st sl so ar cy st2 sl2 o yo) (hk : ∀ q : Nat, q < H.size → ¬ XA A H.size q → q ≠ o → H1[q]? = H[q]?) : va_P (dC, dI) vwCl (mw ar cy st2 sl2) H1 := h.2.2.1.kept (fun k q hq => by
  obtain ⟨h17, e⟩ := mw_at hq
  have hlt := h.mlt h17
  rw [e]
  refine hk _ hlt (fun z => ?_) (h.1.2.2.2.2.2.2.2 k h17)
  rcases z with ⟨r, hr, e2⟩ | z
  · exact h.1.2.2.2.2.2.1 r k hr h17 e2.symm
  · exact absurd hlt (Nat.not_lt.mpr z))
theorem LH.cx (h : LH dC dI s H A C nb st sl so ar cy st2 sl2 o yo) (hP : va_P (dC, dI) vwCl (xw A C nb st' sl' so') H1) (hk : ∀ q : Nat, q < H.size → ¬ XA A H.size q → H1[q]? = H[q]?) : LH dC dI s H1 A C nb st' sl' so' ar cy st2 sl2 o yo := by
  obtain ⟨g, hg⟩ := h.2.2.2.1
  exact ⟨h.1, hP, h.km (fun q a b _ => hk q a b), ⟨g, hg.kept (lkept h.1.2.2.2.2.2.2.1 h.olt hk)⟩, h.2.2.2.2⟩
theorem LH.cm (h : LH dC dI s H A C nb st sl so ar cy st2 sl2 o yo) (hP : va_P (dC, dI) vwCl (mw ar cy st2' sl2') H1) (hk : ∀ q : Nat, q < H.size → ¬ MA ar H.size q → H1[q]? = H[q]?) : LH dC dI s H1 A C nb st sl so ar cy st2' sl2' o yo := by
  obtain ⟨g, hg⟩ := h.2.2.2.1
  refine ⟨h.1, h.2.1.kept (fun k q hq => ?_), hP, ⟨g, hg.kept (fun k q hq => ?_)⟩, h.2.2.2.2⟩
  · obtain ⟨h1, e⟩ := xw_fst hq
    have hlt := h.alt h1
    rw [e]
    refine hk _ hlt (fun z => ?_)
    rcases z with ⟨r, hr, e2⟩ | z
    · exact h.1.2.2.2.2.2.1 k r h1 hr e2
    · exact absurd hlt (Nat.not_lt.mpr z)
  · have ho := h.olt
    match k, hq with
    | 0, hq =>
      cases hq
      refine hk _ ho (fun z => ?_)
      rcases z with ⟨r, hr, e2⟩ | z
      · exact h.1.2.2.2.2.2.2.2 r hr e2.symm
      · exact absurd ho (Nat.not_lt.mpr z)
    | k + 1, hq => exact nomatch hq
theorem LH.cl (h : LH dC dI s H A C nb st sl so ar cy st2 sl2 o yo) {g2 : Nat → Int64} (hP : va_P (dC, dI) vwCl (xw A C nb st' sl' so') H1) (hP2 : va_P (dC, dI) vwCl [(o, .inl (yo, 1, .inr (.inl g2)))] H1) (hk : ∀ q : Nat, q < H.size → ¬ lA A o H.size q → H1[q]? = H[q]?) : LH dC dI s H1 A C nb st' sl' so' ar cy st2 sl2 o yo :=
  ⟨h.1, hP, h.km (fun q a b d => hk q a (fun z => z.elim b d)), ⟨g2, hP2⟩, h.2.2.2.2⟩
theorem LH.cb (h : LH dC dI s H A C nb st sl so ar cy st2 sl2 o yo) {A' : Nat → Nat} {C' : Nat → ClassId} {nb' : Nat} (hS : va_S (LF s) s.heap H locs) (hP : va_P (dC, dI) vwCl (xw A' C' nb' st' sl' so') H1) (hK : va_K (dC, dI) vwCl (xt C') s) (hN : XN A') (hB : BR A A' H.size) (hk : ∀ q : Nat, q < H.size → ¬ XA A H.size q → H1[q]? = H[q]?) : LH dC dI s H1 A' C' nb' st' sl' so' ar cy st2 sl2 o yo := by
  obtain ⟨g, hg⟩ := h.2.2.2.1
  have hA : ∀ r, r < 296 → A' r = A r ∨ H.size ≤ A' r := fun r hr => by
    by_cases h19 : r = 19
    · subst h19
      exact hB.2
    · exact Or.inl (hB.1 r h19)
  refine ⟨⟨hN, h.1.2.1, fun r hr => ?_, h.1.2.2.2.1, h.1.2.2.2.2.1, fun r k hr hk e => ?_, fun r hr e => ?_, h.1.2.2.2.2.2.2.2⟩, hP, h.km (fun q a b _ => hk q a b), ⟨g, hg.kept (lkept h.1.2.2.2.2.2.2.1 h.olt hk)⟩, hK, h.2.2.2.2.2⟩
  · rcases hA r hr with z | z
    · rw [z]; exact h.1.2.2.1 r hr
    · exact Nat.le_trans hS.1 z
  · rcases hA r hr with z | z
    · exact h.1.2.2.2.2.2.1 r k hr hk (z.symm.trans e)
    · have := h.mlt hk
      omega
  · rcases hA r hr with z | z
    · exact h.1.2.2.2.2.2.2.1 r hr (z.symm.trans e)
    · have := h.olt
      omega
end LHs
section LNs
variable {ad : Nat → Nat} {nb nb' : Nat} {st X : Nat → Nat → Int32} {so Z : Nat → XR} {st2 Y : Nat → Nat → Int32} {S T M : List Nat} {sl sl2 : Nat → Nat → Int64}
theorem LN.cx (h : LN ad nb st sl so st2 sl2) (hG : XG S st X) (h4 : 4 ∈ S) (h5 : 5 ∈ S) (h13 : 13 ∈ S) : XI X ∧ OI ad so ∧ BD nb X ∧ SKall ad X so := ⟨hG.1, h.1.2.1, h.1.2.2.1.mg hG h13, h.1.2.2.2.mgs hG h4 h5⟩
theorem LN.ct (h : LN ad nb st sl so st2 sl2) (hG : XG S st X) (hM : MG M st2 Y) (h1 : 1 ∈ S) (h2 : 1 ∈ M) (h3 : 14 ∈ S) (h4 : 20 ∈ M) : ∃ g, g < 941 ∧ X 1 1 = nI g ∧ Y 0 2 = nI g ∧ TB g X Y := by
  obtain ⟨g, a, b, c, e⟩ := h.2.2.1
  exact ⟨g, a, (hG.2 1 1 h1).trans b, (hM.2 0 2 h2).trans c, e.mg hG hM h3 h4⟩
theorem LN.cz (hx : X 1 1 = 0) (hy : Y 0 2 = 0) : ∃ g, g < 941 ∧ X 1 1 = nI g ∧ Y 0 2 = nI g ∧ TB g X Y := ⟨0, by omega, hx, hy, ⟨fun _ => 0, fun j hj => absurd hj (Nat.not_lt_zero j)⟩⟩
theorem LN.ck (h : LN ad nb st sl so st2 sl2) (hG : XG S st X) (hM : MG M st2 Y) (h1 : 2 ∈ S) (h2 : 2 ∈ M) : ∀ j, j < 2 → X 15 j = Y 10 j := fun j hj => ((hG.2 15 j h1).trans (h.2.2.2.1 j hj)).trans (hM.2 10 j h2).symm
end LNs
def LK (p : Program) (l : Launch) (e : Env) (s : State) (m : MethodId) (b : Nat) (below : List Frame) (meth : Method) (c : Code) (dC : Nat → ClassId) (dI : Nat → Nat → Nat) (ad : Nat → Nat) (ar : Nat → Nat) (cy : Nat → ClassId) (a0 o : Nat) (yo : ClassId) (i nc ns pc : Nat) (Q : State → Prop) : Prop :=
  ∀ (H : Heap) (locs : List Loc) (ls : Array Slot) (A : Nat → Nat) (C : Nat → ClassId) (nb : Nat) (st : Nat → Nat → Int32) (sl : Nat → Nat → Int64) (so : Nat → XR) (st2 : Nat → Nat → Int32) (sl2 : Nat → Nat → Int64), A 0 = a0 → LH dC dI s H A C nb st sl so ar cy st2 sl2 o yo → LN ad nb st sl so st2 sl2 → va_S (LF s) s.heap H locs → lv_has ls 8 [(4, .int (nI i)), (3, .ref o), (2, .ref (ar 0)), (1, .ref a0), (0, .ref b)] → W p l e room_1 s m #[Value.ref b] below meth c H locs nc ns Q (F0 m pc ls [])
