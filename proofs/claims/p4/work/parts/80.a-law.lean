/-! THE CLAIM OUT OF ONE WALK OF THE LAW'S BODY. Your part is whole_start (and what it stands on); all else here is the same for every law, but numbers. -/
def R_law : String := "OffTheLeadLaw"
def lw_P (b : Addr) (xs : List Int32) (args : Array Value) (s : State) : Prop := args = #[.ref b] ∧ s.IntsAt b xs ∧ xs.length ≤ 3072 ∧ (Jvm.Cond.and given_1 narrow_1).before args s = true
def lw_Q (_ : Array Value) (s : State) (o : Outcome) (t : State) : Prop := o = .returned (some (.int 1)) ∧ Framed s o t [] 601024 7293034
def lw_Z (below : List Frame) (a : Array Value) (s : State) : State → Prop := fun t => ∃ o, t.status = .running ∧ Ended t below o ∧ lw_Q a s o t
/-- the law's own end, with 1 on the stack, nothing written that was there before, its room as the claim has it -/
theorem lw_ret {p : Program} {l : Launch} {e : Env} {s : State} {m : MethodId} {below : List Frame} {meth : Method} {c : Code} {b : Nat} (hx : p.tables.exec = Jvm.exec) (hb : c.code = code) (hr : meth.sig.returnType = ret) (hlocks : meth.locks = false) {pc : Nat} {H : Heap} {ls : Array Slot} (hdg : decode code pc = .ok (.ireturn, 1)) : W p l e room_1 s m #[Value.ref b] below meth c H [] 601024 7293034 (lw_Z below #[Value.ref b] s) (F0 m pc ls [.int 1]) := by
  intro T hT X
  obtain ⟨fs, hret, hrun, hended, hW, hframe⟩ := X.leave (v := some (.int 1)) (hlocks := hlocks) (fun h => by rw [hr] at h; cases h)
  have hmeth' : T.vm.method? m = some meth := X.method'
  refine ⟨T.setFrames fs, ?_, .returned (some (.int 1)), hrun, hended, rfl, ⟨_, rfl⟩, hW, hframe⟩
  jvm_step X.here [X.here.top, hx, hb, hdg, hmeth', hr, ret, narrow_b1]
  (try refine ⟨rfl, ?_⟩); (try refine ⟨rfl, ?_⟩)
  first | (intro acts; rw [hret _ acts rfl rfl rfl]) | rw [hret _ _ rfl rfl rfl]
  exact Steps.refl _
/-- what holds at the law's entry: the machine, the code, the tables' words (any of lw_tbl by 'hts w (by decide +kernel)'), the script of L ints xs at the cell b, what the Statement gives of the start (any of its parts by flat_of_before) -/
def lw_At (p : Program) (s : State) (m : MethodId) (meth : Method) (c : Code) (b L : Nat) (xs : Nat → Int32) : Prop :=
  p.tables.exec = Jvm.exec ∧ c.code = code ∧ meth.sig.returnType = ret ∧ c.maxLocals = 8 ∧ s.vm.findClass R_law = some m.cls ∧ (∀ w ∈ lw_tbl, w.before #[Value.ref b] s = true) ∧ va_X b L xs s s.heap ∧ b < s.heap.size ∧ meth.locks = false ∧ (Jvm.Cond.and given_1 narrow_1).before #[Value.ref b] s = true
/-! the law: its world, what holds at each of its rounds -/
abbrev LF (s : State) : Nat → Prop := fun q => s.heap.size ≤ q
def LH (dC : Nat → ClassId) (dI : Nat → Nat → Nat) (s : State) (H : Heap) (A : Nat → Nat) (C : Nat → ClassId) (nb : Nat) (st : Nat → Nat → Int32) (sl : Nat → Nat → Int64) (so : Nat → XR) (ar : Nat → Nat) (cy : Nat → ClassId) (st2 : Nat → Nat → Int32) (sl2 : Nat → Nat → Int64) (o : Nat) (yo : ClassId) : Prop :=
  (XN A ∧ MN ar ∧ (∀ r, r < 296 → s.heap.size ≤ A r) ∧ (∀ k, k < 17 → s.heap.size ≤ ar k) ∧ s.heap.size ≤ o ∧ (∀ r k, r < 296 → k < 17 → A r ≠ ar k) ∧ (∀ r, r < 296 → A r ≠ o) ∧ (∀ k, k < 17 → ar k ≠ o)) ∧
  va_P (dC, dI) vwCl (xw A C nb st sl so) H ∧ va_P (dC, dI) vwCl (mw ar cy st2 sl2) H ∧ (∃ g : Nat → Int64, va_P (dC, dI) vwCl [(o, .inl (yo, 1, .inr (.inl g)))] H) ∧ va_K (dC, dI) vwCl (xt C) s ∧ va_K (dC, dI) vwCl (mt cy) s ∧ va_K (dC, dI) vwCl [(yo, .long)] s
def TB (g : Nat) (st st2 : Nat → Nat → Int32) : Prop := ∃ B : Nat → Nat, ∀ j, j < g → st 2 j = sbt (B j) ∧ st2 1 j = nI (B j) ∧ B j < 256
theorem TB.le {g n : Nat} {st st2 : Nat → Nat → Int32} (h : TB g st st2) (hn : n ≤ g) : TB n st st2 := by
  obtain ⟨B, hB⟩ := h
  exact ⟨B, fun j hj => hB j (by omega)⟩
theorem TB.eq {g : Nat} {st st2 X Y : Nat → Nat → Int32} (h : TB g st st2) (hx : ∀ j, j < g → X 2 j = st 2 j) (hy : ∀ j, j < g → Y 1 j = st2 1 j) : TB g X Y := by
  obtain ⟨B, hB⟩ := h
  exact ⟨B, fun j hj => ⟨(hx j hj).trans (hB j hj).1, (hy j hj).trans (hB j hj).2.1, (hB j hj).2.2⟩⟩
theorem TB.mg {g : Nat} {S M : List Nat} {st st2 X Y : Nat → Nat → Int32} (h : TB g st st2) (hG : XG S st X) (hM : MG M st2 Y) (h1 : 14 ∈ S) (h2 : 20 ∈ M) : TB g X Y := h.eq (fun j _ => hG.2 2 j h1) (fun j _ => hM.2 1 j h2)
theorem TB.feed {g : Nat} {st st2 X Y : Nat → Nat → Int32} {a b c d e : Int32} (h : TB g st st2) (hx : ∀ j, j < g → X 2 j = st 2 j) (hy : ∀ j, j < g → Y 1 j = st2 1 j) (fx : ∀ j, j < 20 → X 2 (g + j) = sbt (fby a b c d e j)) (fy : ∀ j, j < 20 → Y 1 (g + j) = nI (fby a b c d e j)) : TB (g + 20) X Y := by
  obtain ⟨B, hB⟩ := h
  refine ⟨fun j => if j < g then B j else fby a b c d e (j - g), fun j hj => ?_⟩
  show X 2 j = sbt (if j < g then B j else fby a b c d e (j - g)) ∧ Y 1 j = nI (if j < g then B j else fby a b c d e (j - g)) ∧ (if j < g then B j else fby a b c d e (j - g)) < 256
  by_cases hg : j < g
  · rw [if_pos hg]
    exact ⟨(hx j hg).trans (hB j hg).1, (hy j hg).trans (hB j hg).2.1, (hB j hg).2.2⟩
  · rw [if_neg hg]
    have e1 := fx (j - g) (by omega)
    have e2 := fy (j - g) (by omega)
    rw [show g + (j - g) = j by omega] at e1 e2
    exact ⟨e1, e2, fby_lt _ _ _ _ _ _⟩
def LN (ad : Nat → Nat) (nb : Nat) (st : Nat → Nat → Int32) (so : Nat → XR) (st2 : Nat → Nat → Int32) : Prop :=
  (XI st ∧ OI ad so ∧ BD nb st ∧ SKall ad st so) ∧ (MI st2 ∧ NKn st2 ∧ NKk st2 ∧ NKm st2) ∧ (∃ g, g < 941 ∧ st 1 1 = nI g ∧ st2 0 2 = nI g ∧ TB g st st2) ∧ ∀ j, j < 2 → st 15 j = st2 10 j
section LHs
variable {dC : Nat → ClassId} {dI : Nat → Nat → Nat} {s : State} {H H1 : Heap} {A : Nat → Nat} {C : Nat → ClassId} {nb : Nat} {st st' : Nat → Nat → Int32} {sl sl' : Nat → Nat → Int64} {so so' : Nat → XR} {ar : Nat → Nat} {cy : Nat → ClassId} {st2 st2' : Nat → Nat → Int32} {sl2 sl2' : Nat → Nat → Int64} {o : Nat} {yo : ClassId} {locs : List Loc}
theorem mw_has {k : Nat} (hk : k < 17) : ∃ e : va_E, (mw ar cy st2 sl2)[k]? = some (ar k, e) := by
  match k, hk with
  | 0, _ => exact ⟨_, rfl⟩
  | 1, _ => exact ⟨_, rfl⟩
  | 2, _ => exact ⟨_, rfl⟩
  | 3, _ => exact ⟨_, rfl⟩
  | 4, _ => exact ⟨_, rfl⟩
  | 5, _ => exact ⟨_, rfl⟩
  | 6, _ => exact ⟨_, rfl⟩
  | 7, _ => exact ⟨_, rfl⟩
  | 8, _ => exact ⟨_, rfl⟩
  | 9, _ => exact ⟨_, rfl⟩
  | 10, _ => exact ⟨_, rfl⟩
  | 11, _ => exact ⟨_, rfl⟩
  | 12, _ => exact ⟨_, rfl⟩
  | 13, _ => exact ⟨_, rfl⟩
  | 14, _ => exact ⟨_, rfl⟩
  | 15, _ => exact ⟨_, rfl⟩
  | 16, _ => exact ⟨_, rfl⟩
  | k + 17, h => exact absurd h (by omega)
theorem LH.alt (h : LH dC dI s H A C nb st sl so ar cy st2 sl2 o yo) {r : Nat} (hr : r < 296) : A r < H.size := (h.2.1 r _ (xw_at hr)).lt
theorem LH.mlt (h : LH dC dI s H A C nb st sl so ar cy st2 sl2 o yo) {k : Nat} (hk : k < 17) : ar k < H.size := by
  obtain ⟨e, he⟩ := mw_has (ar := ar) (cy := cy) (st2 := st2) (sl2 := sl2) hk
  exact (h.2.2.1 k _ he).lt
theorem LH.olt (h : LH dC dI s H A C nb st sl so ar cy st2 sl2 o yo) : o < H.size := by
  obtain ⟨g, hg⟩ := h.2.2.2.1
  exact (hg 0 _ rfl).lt
theorem LH.fx (h : LH dC dI s H A C nb st sl so ar cy st2 sl2 o yo) (hS : va_S (LF s) s.heap H locs) : ∀ q, XA A H.size q → LF s q := fun q z => by
  rcases z with ⟨k, hk, e⟩ | z
  · rw [e]; exact h.1.2.2.1 k hk
  · exact Nat.le_trans hS.1 z
theorem LH.fm (h : LH dC dI s H A C nb st sl so ar cy st2 sl2 o yo) (hS : va_S (LF s) s.heap H locs) : ∀ q, MA ar H.size q → LF s q := fun q z => by
  rcases z with ⟨k, hk, e⟩ | z
  · rw [e]; exact h.1.2.2.2.1 k hk
  · exact Nat.le_trans hS.1 z
theorem LH.fo (h : LH dC dI s H A C nb st sl so ar cy st2 sl2 o yo) (hS : va_S (LF s) s.heap H locs) : ∀ q, lA A o H.size q → LF s q := fun q z => by
  rcases z with z | z
  · exact h.fx hS q z
  · rw [z]; exact h.1.2.2.2.2.1
theorem LH.km (h : LH dC dI s H A C nb st sl so ar cy st2 sl2 o yo) (hk : ∀ q : Nat, q < H.size → ¬ XA A H.size q → q ≠ o → H1[q]? = H[q]?) : va_P (dC, dI) vwCl (mw ar cy st2 sl2) H1 := h.2.2.1.kept (fun k q hq => by
  obtain ⟨h17, e⟩ := mw_at hq
  have hlt := h.mlt h17
  rw [e]
  refine hk _ hlt (fun z => ?_) (h.1.2.2.2.2.2.2.2 k h17)
  rcases z with ⟨r, hr, e2⟩ | z
  · exact h.1.2.2.2.2.2.1 r k hr h17 e2.symm
  · exact absurd hlt (Nat.not_lt.mpr z))
theorem LH.cx (h : LH dC dI s H A C nb st sl so ar cy st2 sl2 o yo) (hP : va_P (dC, dI) vwCl (xw A C nb st' sl' so') H1) (hk : ∀ q : Nat, q < H.size → ¬ XA A H.size q → H1[q]? = H[q]?) : LH dC dI s H1 A C nb st' sl' so' ar cy st2 sl2 o yo := by
  obtain ⟨g, hg⟩ := h.2.2.2.1
  exact ⟨h.1, hP, h.km (fun q a b _ => hk q a b), ⟨g, hg.kept (lkept h.1.2.2.2.2.2.2.1 h.olt hk)⟩, h.2.2.2.2⟩
theorem LH.cm (h : LH dC dI s H A C nb st sl so ar cy st2 sl2 o yo) (hP : va_P (dC, dI) vwCl (mw ar cy st2' sl2') H1) (hk : ∀ q : Nat, q < H.size → ¬ MA ar H.size q → H1[q]? = H[q]?) : LH dC dI s H1 A C nb st sl so ar cy st2' sl2' o yo := by
  obtain ⟨g, hg⟩ := h.2.2.2.1
  refine ⟨h.1, h.2.1.kept (fun k q hq => ?_), hP, ⟨g, hg.kept (fun k q hq => ?_)⟩, h.2.2.2.2⟩
  · obtain ⟨h1, e⟩ := xw_fst hq
    have hlt := h.alt h1
    rw [e]
    refine hk _ hlt (fun z => ?_)
    rcases z with ⟨r, hr, e2⟩ | z
    · exact h.1.2.2.2.2.2.1 k r h1 hr e2
    · exact absurd hlt (Nat.not_lt.mpr z)
  · have ho := h.olt
    match k, hq with
    | 0, hq =>
      cases hq
      refine hk _ ho (fun z => ?_)
      rcases z with ⟨r, hr, e2⟩ | z
      · exact h.1.2.2.2.2.2.2.2 r hr e2.symm
      · exact absurd ho (Nat.not_lt.mpr z)
    | k + 1, hq => exact nomatch hq
theorem LH.cl (h : LH dC dI s H A C nb st sl so ar cy st2 sl2 o yo) {g2 : Nat → Int64} (hP : va_P (dC, dI) vwCl (xw A C nb st' sl' so') H1) (hP2 : va_P (dC, dI) vwCl [(o, .inl (yo, 1, .inr (.inl g2)))] H1) (hk : ∀ q : Nat, q < H.size → ¬ lA A o H.size q → H1[q]? = H[q]?) : LH dC dI s H1 A C nb st' sl' so' ar cy st2 sl2 o yo :=
  ⟨h.1, hP, h.km (fun q a b d => hk q a (fun z => z.elim b d)), ⟨g2, hP2⟩, h.2.2.2.2⟩
theorem LH.cb (h : LH dC dI s H A C nb st sl so ar cy st2 sl2 o yo) {A' : Nat → Nat} {C' : Nat → ClassId} {nb' : Nat} (hS : va_S (LF s) s.heap H locs) (hP : va_P (dC, dI) vwCl (xw A' C' nb' st' sl' so') H1) (hK : va_K (dC, dI) vwCl (xt C') s) (hN : XN A') (hB : BR A A' H.size) (hk : ∀ q : Nat, q < H.size → ¬ XA A H.size q → H1[q]? = H[q]?) : LH dC dI s H1 A' C' nb' st' sl' so' ar cy st2 sl2 o yo := by
  obtain ⟨g, hg⟩ := h.2.2.2.1
  have hA : ∀ r, r < 296 → A' r = A r ∨ H.size ≤ A' r := fun r hr => by
    by_cases h19 : r = 19
    · subst h19
      exact hB.2
    · exact Or.inl (hB.1 r h19)
  refine ⟨⟨hN, h.1.2.1, fun r hr => ?_, h.1.2.2.2.1, h.1.2.2.2.2.1, fun r k hr hk e => ?_, fun r hr e => ?_, h.1.2.2.2.2.2.2.2⟩, hP, h.km (fun q a b _ => hk q a b), ⟨g, hg.kept (lkept h.1.2.2.2.2.2.2.1 h.olt hk)⟩, hK, h.2.2.2.2.2⟩
  · rcases hA r hr with z | z
    · rw [z]; exact h.1.2.2.1 r hr
    · exact Nat.le_trans hS.1 z
  · rcases hA r hr with z | z
    · exact h.1.2.2.2.2.2.1 r k hr hk (z.symm.trans e)
    · have := h.mlt hk
      omega
  · rcases hA r hr with z | z
    · exact h.1.2.2.2.2.2.2.1 r hr (z.symm.trans e)
    · have := h.olt
      omega
end LHs
section LNs
variable {ad : Nat → Nat} {nb nb' : Nat} {st X : Nat → Nat → Int32} {so Z : Nat → XR} {st2 Y : Nat → Nat → Int32} {S T M : List Nat}
theorem LN.cx (h : LN ad nb st so st2) (hG : XG S st X) (h4 : 4 ∈ S) (h5 : 5 ∈ S) (h13 : 13 ∈ S) : XI X ∧ OI ad so ∧ BD nb X ∧ SKall ad X so := ⟨hG.1, h.1.2.1, h.1.2.2.1.mg hG h13, h.1.2.2.2.mgs hG h4 h5⟩
theorem LN.ct (h : LN ad nb st so st2) (hG : XG S st X) (hM : MG M st2 Y) (h1 : 1 ∈ S) (h2 : 1 ∈ M) (h3 : 14 ∈ S) (h4 : 20 ∈ M) : ∃ g, g < 941 ∧ X 1 1 = nI g ∧ Y 0 2 = nI g ∧ TB g X Y := by
  obtain ⟨g, a, b, c, e⟩ := h.2.2.1
  exact ⟨g, a, (hG.2 1 1 h1).trans b, (hM.2 0 2 h2).trans c, e.mg hG hM h3 h4⟩
theorem LN.cz (hx : X 1 1 = 0) (hy : Y 0 2 = 0) : ∃ g, g < 941 ∧ X 1 1 = nI g ∧ Y 0 2 = nI g ∧ TB g X Y := ⟨0, by omega, hx, hy, ⟨fun _ => 0, fun j hj => absurd hj (Nat.not_lt_zero j)⟩⟩
theorem LN.ck (h : LN ad nb st so st2) (hG : XG S st X) (hM : MG M st2 Y) (h1 : 2 ∈ S) (h2 : 2 ∈ M) : ∀ j, j < 2 → X 15 j = Y 10 j := fun j hj => ((hG.2 15 j h1).trans (h.2.2.2 j hj)).trans (hM.2 10 j h2).symm
end LNs
def LK (p : Program) (l : Launch) (e : Env) (s : State) (m : MethodId) (b : Nat) (below : List Frame) (meth : Method) (c : Code) (dC : Nat → ClassId) (dI : Nat → Nat → Nat) (ad : Nat → Nat) (ar : Nat → Nat) (cy : Nat → ClassId) (a0 o : Nat) (yo : ClassId) (i nc ns pc : Nat) (Q : State → Prop) : Prop :=
  ∀ (H : Heap) (locs : List Loc) (ls : Array Slot) (A : Nat → Nat) (C : Nat → ClassId) (nb : Nat) (st : Nat → Nat → Int32) (sl : Nat → Nat → Int64) (so : Nat → XR) (st2 : Nat → Nat → Int32) (sl2 : Nat → Nat → Int64), A 0 = a0 → LH dC dI s H A C nb st sl so ar cy st2 sl2 o yo → LN ad nb st so st2 → va_S (LF s) s.heap H locs → lv_has ls 8 [(4, .int (nI i)), (3, .ref o), (2, .ref (ar 0)), (1, .ref a0), (0, .ref b)] → W p l e room_1 s m #[Value.ref b] below meth c H locs nc ns Q (F0 m pc ls [])
