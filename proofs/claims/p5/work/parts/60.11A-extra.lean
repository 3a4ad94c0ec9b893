/-! the class's world and the builder's: cut and join -/
def A19 (A : Nat → Nat) (v : Nat) : Nat → Nat := fun r => if r = 19 then v else A r
def C19 (C : Nat → ClassId) (c : ClassId) : Nat → ClassId := fun r => if r = 19 then c else C r
def st19 (st : Nat → Nat → Int32) (f : Nat → Int32) (ml cn : Int32) : Nat → Nat → Int32 := fun r => if r = 18 then upd (upd (upd (st 18) 1 0) 2 ml) 3 cn else if r = 19 then f else st r
theorem A19_ne {A : Nat → Nat} {v r : Nat} (h : r ≠ 19) : A19 A v r = A r := if_neg h
theorem A19_eq {A : Nat → Nat} {v : Nat} : A19 A v 19 = v := if_pos rfl
theorem C19_ne {C : Nat → ClassId} {c : ClassId} {r : Nat} (h : r ≠ 19) : C19 C c r = C r := if_neg h
theorem st19_ne {st : Nat → Nat → Int32} {f : Nat → Int32} {ml cn : Int32} {r : Nat} (h : r ≠ 18) (h2 : r ≠ 19) : st19 st f ml cn r = st r := by unfold st19; rw [if_neg h, if_neg h2]
theorem st19_1 {st : Nat → Nat → Int32} {f : Nat → Int32} {ml cn : Int32} : st19 st f ml cn 18 1 = 0 := rfl
theorem st19_3 {st : Nat → Nat → Int32} {f : Nat → Int32} {ml cn : Int32} : st19 st f ml cn 18 3 = cn := rfl
theorem st19_f {st : Nat → Nat → Int32} {f : Nat → Int32} {ml cn : Int32} : st19 st f ml cn 19 = f := rfl
theorem xcell19 {A : Nat → Nat} {C : Nat → ClassId} {nb nb' v : Nat} {c : ClassId} {f : Nat → Int32} {g : Nat → Int64} {h : XR} {r : Nat} (h1 : r ≠ 18) (h2 : r ≠ 19) : xcell (A19 A v) (C19 C c) nb' f g h r = xcell A C nb f g h r := by
  unfold xcell
  by_cases e : r < 20
  · rw [if_pos e, if_pos e]
    match r, e, h1, h2 with
    | 0, _, _, _ => rfl
    | 1, _, _, _ => rfl
    | 2, _, _, _ => rfl
    | 3, _, _, _ => rfl
    | 4, _, _, _ => rfl
    | 5, _, _, _ => rfl
    | 6, _, _, _ => rfl
    | 7, _, _, _ => rfl
    | 8, _, _, _ => rfl
    | 9, _, _, _ => rfl
    | 10, _, _, _ => rfl
    | 11, _, _, _ => rfl
    | 12, _, _, _ => show xrefs 12 9 (C19 C c) (fun j => some (A19 A v (76 + 20 * j))) = xrefs 12 9 C (fun j => some (A (76 + 20 * j))); unfold xrefs; rw [C19_ne (by decide), show (fun j => some (A19 A v (76 + 20 * j))) = (fun j => some (A (76 + 20 * j))) from funext (fun j => by rw [A19_ne (by omega)])]
    | 13, _, _, _ => show xrefs 13 2 (C19 C c) (fun j => some (A19 A v (256 + 20 * j))) = xrefs 13 2 C (fun j => some (A (256 + 20 * j))); unfold xrefs; rw [C19_ne (by decide), show (fun j => some (A19 A v (256 + 20 * j))) = (fun j => some (A (256 + 20 * j))) from funext (fun j => by rw [A19_ne (by omega)])]
    | 14, _, _, _ => show xrefs 14 2 (C19 C c) (fun j => some (A19 A v (28 + 4 * j))) = xrefs 14 2 C (fun j => some (A (28 + 4 * j))); unfold xrefs; rw [C19_ne (by decide), show (fun j => some (A19 A v (28 + 4 * j))) = (fun j => some (A (28 + 4 * j))) from funext (fun j => by rw [A19_ne (by omega)])]
    | 15, _, _, _ => rfl
    | 16, _, _, _ => rfl
    | 17, _, _, _ => rfl
    | 18, _, h1, _ => exact absurd rfl h1
    | 19, _, _, h2 => exact absurd rfl h2
    | n + 20, e, _, _ => exact absurd e (by omega)
  · rw [if_neg e, if_neg e]
    by_cases e2 : r < 36
    · rw [if_pos e2, if_pos e2]
      unfold xsn xSent xrefs
      rw [C19_ne h2, A19_ne (by omega), A19_ne (by omega), A19_ne (by omega)]
    · rw [if_neg e2, if_neg e2]
      unfold xpk xPark xrefs
      rw [C19_ne h2, A19_ne (by omega), A19_ne (by omega), A19_ne (by omega), A19_ne (by omega), A19_ne (by omega), show (fun j => some (A19 A v (r + 2 + j))) = (fun j => some (A (r + 2 + j))) from funext (fun j => by rw [A19_ne (by omega)]), show (fun j => some (A19 A v (r + 9 + j))) = (fun j => some (A (r + 9 + j))) from funext (fun j => by rw [A19_ne (by omega)])]
def BR (A0 A : Nat → Nat) (sz : Nat) : Prop := (∀ r, r ≠ 19 → A r = A0 r) ∧ (A 19 = A0 19 ∨ sz ≤ A 19)
theorem BR.rf {A : Nat → Nat} {sz : Nat} : BR A A sz := ⟨fun _ _ => rfl, Or.inl rfl⟩
theorem BR.xa {A0 A : Nat → Nat} {sz : Nat} (h : BR A0 A sz) (n : Nat) (hn : sz ≤ n) (q : Nat) (hq : XA A n q) : XA A0 sz q := by
  rcases hq with ⟨k, hk, e⟩ | e
  · by_cases h9 : k = 19
    · subst h9
      rcases h.2 with z | z
      · exact Or.inl ⟨19, hk, by rw [e, z]⟩
      · exact Or.inr (by rw [e]; exact z)
    · exact Or.inl ⟨k, hk, by rw [e, h.1 k h9]⟩
  · exact Or.inr (Nat.le_trans hn e)
theorem BR.sa {A0 A : Nat → Nat} {sz : Nat} (h : BR A0 A sz) (n : Nat) (hn : sz ≤ n) (q : Nat) (hq : sA (A 18) (A 19) n q) : XA A0 sz q := by
  rcases hq with e | e | e
  · exact h.xa n hn q (Or.inl ⟨18, by omega, e⟩)
  · exact h.xa n hn q (Or.inl ⟨19, by omega, e⟩)
  · exact Or.inr (Nat.le_trans hn e)
theorem xsub {dC : Nat → ClassId} {dI : Nat → Nat → Nat} {A : Nat → Nat} {C : Nat → ClassId} {nb : Nat} {st : Nat → Nat → Int32} {sl : Nat → Nat → Int64} {so : Nat → XR} {H : Heap} (hP : va_P (dC, dI) vwCl (xw A C nb st sl so) H) (h1 : st 18 1 = 0) {cn : Nat} (h3 : st 18 3 = nI cn) : va_P (dC, dI) vwCl (sw (A 18) (A 19) (C 19) nb (st 19) (st 18 2) (nI cn)) H := by
  have e18 : xcell A C nb (st 18) (sl 18) (so 18) 18 = .inr (0, [.ref (A 19), .int 0, .int (st 18 2), .int (nI cn)]) := by
    show Sum.inr (0, [Value.ref (A 19), .int (st 18 1), .int (st 18 2), .int (st 18 3)]) = _
    rw [h1, h3]
  intro k q hq
  match k, hq with
  | 0, hq => cases hq; exact hP 18 _ (xw_is (by omega) e18)
  | 1, hq => cases hq; exact hP 19 _ (xw_is (by omega) rfl)
  | k + 2, hq => exact nomatch hq
theorem xKsub {dC : Nat → ClassId} {dI : Nat → Nat → Nat} {C : Nat → ClassId} {s : State} (hK : va_K (dC, dI) vwCl (xt C) s) : va_K (dC, dI) vwCl [(C 19, .byte)] s := by
  refine ⟨hK.1, fun k q hq => ?_⟩
  match k, hq with
  | 0, hq => cases hq; exact hK.2 19 _ (xt_is (by omega) rfl)
  | k + 1, hq => exact nomatch hq
theorem xjoin {dC : Nat → ClassId} {dI : Nat → Nat → Nat} {A0 A : Nat → Nat} {C : Nat → ClassId} {nb sz : Nat} {st : Nat → Nat → Int32} {sl : Nat → Nat → Int64} {so : Nat → XR} {H H1 : Heap} {s : State} (hN : XN A) (hP : va_P (dC, dI) vwCl (xw A C nb st sl so) H) (hK : va_K (dC, dI) vwCl (xt C) s) (hBR : BR A0 A sz) (hsz : sz ≤ H.size) {v nb' : Nat} {c : ClassId} {f : Nat → Int32} {ml cn : Int32} (hPs : va_P (dC, dI) vwCl (sw (A 18) v c nb' f ml cn) H1) (hKs : va_K (dC, dI) vwCl [(c, .byte)] s) (hk : ∀ q : Nat, q < H.size → ¬ sA (A 18) (A 19) H.size q → H1[q]? = H[q]?) (hne : A 18 ≠ v) (hv : v = A 19 ∨ H.size ≤ v) :
    va_P (dC, dI) vwCl (xw (A19 A v) (C19 C c) nb' (st19 st f ml cn) sl so) H1 ∧ va_K (dC, dI) vwCl (xt (C19 C c)) s ∧ XN (A19 A v) ∧ BR A0 (A19 A v) sz := by
  have hlt : ∀ r, r < 296 → A r < H.size := fun r hr => (hP r _ (xw_at hr)).lt
  refine ⟨fun k q hq => ?_, ⟨hK.1, fun k q hq => ?_⟩, fun i j hi hj e => ?_, fun r hr => ?_, ?_⟩
  · have hk9 := (xw_fst hq).1
    rw [xw_at hk9] at hq
    cases hq
    by_cases e18 : k = 18
    · subst e18
      exact hPs 0 _ rfl
    · by_cases e19 : k = 19
      · subst e19
        exact hPs 1 _ rfl
      · rw [xcell19 (nb := nb) e18 e19, A19_ne e19, st19_ne e18 e19]
        refine (hP k _ (xw_at hk9)).kept (hk _ (hlt k hk9) (fun z => ?_))
        rcases z with z | z | z
        · exact e18 (hN k 18 hk9 (by omega) z)
        · exact e19 (hN k 19 hk9 (by omega) z)
        · exact absurd (hlt k hk9) (Nat.not_lt.mpr z)
  · have hk9 : k < 296 := by
      by_cases h9 : k < 296
      · exact h9
      · rw [List.getElem?_eq_none (by unfold xt; rw [List.length_map, List.length_range]; omega)] at hq; cases hq
    rw [xt_is hk9 rfl] at hq
    cases hq
    by_cases e19 : k = 19
    · subst e19
      exact hKs.2 0 _ rfl
    · show ArrOfT s (C19 C c k) (xty k) ∧ va_RA s (C19 C c k) (xty k)
      rw [C19_ne e19]
      exact hK.2 k _ (xt_is hk9 rfl)
  · by_cases ei : i = 19
    · by_cases ej : j = 19
      · rw [ei, ej]
      · rw [ei, A19_eq, A19_ne ej] at e
        rcases hv with z | z
        · exact absurd (hN 19 j (by omega) hj (by rw [← z]; exact e)) (fun h9 => ej h9.symm)
        · exact absurd (hlt j hj) (by rw [← e]; exact Nat.not_lt.mpr z)
    · by_cases ej : j = 19
      · rw [ej, A19_eq, A19_ne ei] at e
        rcases hv with z | z
        · exact absurd (hN i 19 hi (by omega) (by rw [← z]; exact e)) ei
        · exact absurd (hlt i hi) (by rw [e]; exact Nat.not_lt.mpr z)
      · rw [A19_ne ei, A19_ne ej] at e
        exact hN i j hi hj e
  · rw [A19_ne hr]; exact hBR.1 r hr
  · rw [A19_eq]
    rcases hv with z | z
    · rw [z]; exact hBR.2
    · exact Or.inr (Nat.le_trans hsz z)
theorem xg19 {S : List Nat} {s0 st : Nat → Nat → Int32} (h : XG S s0 st) (hS : 13 ∉ S) (f : Nat → Int32) (ml cn : Int32) : XG S s0 (st19 st f ml cn) := by
  refine ⟨fun r k hk => ?_, fun r k hk => ?_⟩
  · by_cases e : r = 18
    · subst e; exact absurd (show 0 < 0 from hk) (Nat.lt_irrefl 0)
    · by_cases e2 : r = 19
      · subst e2; exact absurd (show 0 < 0 from hk) (Nat.lt_irrefl 0)
      · rw [st19_ne e e2]; exact h.1 r k hk
  · by_cases e : r = 18
    · subst e; exact absurd hk (by show xcl 18 k ∉ S; exact hS)
    · by_cases e2 : r = 19
      · subst e2; exact absurd hk (by show xcl 19 k ∉ S; exact hS)
      · rw [st19_ne e e2]; exact h.2 r k hk
theorem xPre.ofg {ad : Nat → Nat} {E : EP} (hEE : EC ad E) {dC : Nat → ClassId} {dI : Nat → Nat → Nat} {A : Nat → Nat} {C : Nat → ClassId} {nb : Nat} {st : Nat → Nat → Int32} {sl : Nat → Nat → Int64} {so : Nat → XR} {s U : State} {H : Heap} {locs : List Loc} {F : Nat → Prop} (hP : va_P (dC, dI) vwCl (xw A C nb st sl so) H) (hK : va_K (dC, dI) vwCl (xt C) s) (hE : E F s s.heap) (hS : va_S F s.heap H locs) (hF : ∀ q, XA A H.size q → F q) (hU : U.heap = H) (hW : s.WarmedH U.vm) : xPre E dC dI A C nb H.size st sl so U :=
  ⟨by rw [hU], by rw [hU]; exact hP, va_K.moved hW.alike hK, hEE.2.1 _ _ _ _ _ _ hE hS hF hU hW⟩
/-- the builder as the class has it -/
def BD (nb : Nat) (st : Nat → Nat → Int32) : Prop := st 18 1 = 0 ∧ (nb = 16 ∨ nb = 34) ∧ (∃ cn, st 18 3 = nI cn ∧ cn ≤ nb ∧ cn ≤ 30) ∧ sb_Fit (st 19)
theorem BD.mg {S : List Nat} {nb : Nat} {st s1 : Nat → Nat → Int32} (h : BD nb st) (g : XG S st s1) (hS : 13 ∈ S) : BD nb s1 := by
  obtain ⟨h1, h2, ⟨cn, h3, h4⟩, h5⟩ := h
  have e : ∀ k, s1 18 k = st 18 k := fun k => g.2 18 k (by show xcl 18 k ∈ S; exact hS)
  refine ⟨by rw [e]; exact h1, h2, ⟨cn, by rw [e]; exact h3, h4⟩, fun j => ?_⟩
  rw [g.2 19 j (by show xcl 19 j ∈ S; exact hS)]; exact h5 j
abbrev XTB : Type := XT × (Nat → Nat) × (Nat → ClassId) × Nat
def xBB (dC : Nat → ClassId) (dI : Nat → Nat → Nat) (A0 : Nat → Nat) (sz : Nat) (x : XTB) (t : State) : Prop := xB dC dI x.2.1 x.2.2.1 x.2.2.2 x.1 t ∧ va_K (dC, dI) vwCl (xt x.2.2.1) t ∧ XN x.2.1 ∧ BR A0 x.2.1 sz
theorem A19_self {A : Nat → Nat} : A19 A (A 19) = A := funext fun r => by
  by_cases h : r = 19
  · rw [h, A19_eq]
  · rw [A19_ne h]
theorem C19_self {C : Nat → ClassId} : C19 C (C 19) = C := funext fun r => by
  by_cases h : r = 19
  · rw [h]; exact if_pos rfl
  · rw [C19_ne h]
section XLW
variable {p : Program} {l : Launch} {e : Env} {R : Room} {s : State} {m : MethodId} {args : Array Value} {below : List Frame} {meth : Method} {c : Code} {H : Heap} {locs : List Loc} {cells slots : Nat} {Q : State → Prop} {cc : ByteArray} {pc : Nat} {ls : Array Slot} {rest : List Value}
theorem va_ldcwS (hexec : p.tables.exec = Jvm.exec) (hb : c.code = cc) {own tx : String} {index q : Nat} (hown : s.vm.findClass own = some m.cls) (hZ : vk_R own index tx q s) (hdg : decode cc pc = .ok (.ldc_w index, 3))
    (k : W p l e R s m args below meth c H locs cells slots Q (F0 m (pc + 3) ls (.ref q :: rest))) : W p l e R s m args below meth c H locs cells slots Q (F0 m pc ls rest) := by
  intro T hT X
  obtain ⟨t, a1, b1⟩ := k T hT X
  exact ⟨t, X.ldcStringW hexec hown (text := tx) (a := q) hZ.1 hZ.2 (g := F0 m pc ls rest) rfl (by rw [hb]; exact hdg) t a1, b1⟩
end XLW
