def ocl (r : Nat) : Nat := if r = 1 then 1 else if r = 5 then 2 else if r = 25 then 3 else if r = 21 ∨ r = 29 ∨ r = 33 then 4 else 0
def isW (ad : Nat → Nat) (x : Option Nat) : Prop := x = none ∨ ∃ j, j < 26 ∧ x = some (ad j)
def OI (ad : Nat → Nat) (so : Nat → XR) : Prop := (∀ r k, isW ad (so r k)) ∧ ∃ j, j < 26 ∧ so 1 7 = some (ad j)
def OG (ad : Nat → Nat) (T : List Nat) (s0 so : Nat → XR) : Prop := OI ad so ∧ ∀ r k, ocl r ∈ T → so r k = s0 r k
theorem OG.rf {ad : Nat → Nat} {T : List Nat} {so : Nat → XR} (h : OI ad so) : OG ad T so so := ⟨h, fun _ _ _ => rfl⟩
theorem upO_same (so : Nat → XR) (r k : Nat) (v : Option Nat) : upO so r k v r k = v := by unfold upO; rw [if_pos rfl]; unfold va_up; rw [if_pos rfl]
theorem upO_ne (so : Nat → XR) {r k a j : Nat} (v : Option Nat) (h : ¬ (a = r ∧ j = k)) : upO so r k v a j = so a j := by
  unfold upO
  by_cases e : a = r
  · rw [if_pos e]; unfold va_up; rw [if_neg (fun q => h ⟨e, q⟩)]
  · rw [if_neg e]
theorem isW.of {ad : Nat → Nat} {j : Nat} (h : j < 26) : isW ad (some (ad j)) := Or.inr ⟨j, h, rfl⟩
theorem OI.up {ad : Nat → Nat} {so : Nat → XR} (h : OI ad so) {r k : Nat} {v : Option Nat} (hv : isW ad v) (hw : r = 1 → k = 7 → ∃ j, j < 26 ∧ v = some (ad j)) : OI ad (upO so r k v) := by
  refine ⟨fun a j => ?_, ?_⟩
  · by_cases e : a = r ∧ j = k
    · obtain ⟨rfl, rfl⟩ := e
      rw [upO_same]; exact hv
    · rw [upO_ne so v e]; exact h.1 a j
  · by_cases e : 1 = r ∧ 7 = k
    · obtain ⟨rfl, rfl⟩ := e
      rw [upO_same]; exact hw rfl rfl
    · rw [upO_ne so v e]; exact h.2
theorem OG.up {ad : Nat → Nat} {T : List Nat} {s0 so : Nat → XR} (h : OG ad T s0 so) {r k : Nat} {v : Option Nat} (hv : isW ad v) (hw : r = 1 → k = 7 → ∃ j, j < 26 ∧ v = some (ad j)) (hp : ocl r ∉ T) : OG ad T s0 (upO so r k v) := by
  refine ⟨h.1.up hv hw, fun a j hj => ?_⟩
  rw [upO_ne so v (fun e => hp (by obtain ⟨rfl, rfl⟩ := e; exact hj))]; exact h.2 a j hj
theorem OG.tr {ad : Nat → Nat} {T T1 : List Nat} {s0 so s1 : Nat → XR} (h : OG ad T s0 so) (h1 : OG ad T1 so s1) (hs : ∀ c ∈ T, c ∈ T1) : OG ad T s0 s1 := ⟨h1.1, fun a j hj => (h1.2 a j (hs _ hj)).trans (h.2 a j hj)⟩
theorem ocl_sn {q : Nat} (hq : q < 4) : ocl (20 + 4 * q + 1) = if q = 1 then 3 else 4 := by
  rcases (show q = 0 ∨ q = 1 ∨ q = 2 ∨ q = 3 by omega) with rfl | rfl | rfl | rfl <;> decide
/-- a sentence as told: of MEETS the number is a person's -/
def SKs (ad : Nat → Nat) (st : Nat → Nat → Int32) (so : Nat → XR) (q : Nat) : Prop := ∀ n i, st (20 + 4 * q) 3 = nI n → n < 41 → i < n → so (20 + 4 * q + 1) i = some (ad 18) → ∃ m, m < 8 ∧ st (20 + 4 * q + 3) i = nI m
/-- a line of a book as told -/
def BK1 (ad : Nat → Nat) (st : Nat → Nat → Int32) (so : Nat → XR) (i : Nat) : Prop := ((so 5 i = some (ad 9) ∨ so 5 i = some (ad 10)) → ∃ m, m < 6 ∧ st 6 i = nI m) ∧ (so 5 i = some (ad 11) → ∃ m, m < 8 ∧ st 6 i = nI m)
def BKs (ad : Nat → Nat) (st : Nat → Nat → Int32) (so : Nat → XR) (n : Nat) : Prop := ∀ i, i < n → BK1 ad st so i
theorem BK1.eq {ad : Nat → Nat} {st s1 : Nat → Nat → Int32} {so o1 : Nat → XR} {i : Nat} (h : BK1 ad st so i) (e1 : s1 6 i = st 6 i) (e2 : o1 5 i = so 5 i) : BK1 ad s1 o1 i := by unfold BK1 at h ⊢; rw [e1, e2]; exact h
theorem SKs.eq {ad : Nat → Nat} {st s1 : Nat → Nat → Int32} {so o1 : Nat → XR} {q p : Nat} (h : SKs ad st so q) (e0 : s1 (20 + 4 * p) 3 = st (20 + 4 * q) 3) (e1 : ∀ i, s1 (20 + 4 * p + 3) i = st (20 + 4 * q + 3) i) (e2 : ∀ i, o1 (20 + 4 * p + 1) i = so (20 + 4 * q + 1) i) : SKs ad s1 o1 p := by
  intro n i hn h1 h2 h3
  rw [e1]
  exact h n i (by rw [← e0]; exact hn) h1 h2 (by rw [← e2]; exact h3)
theorem SKs.mg {ad : Nat → Nat} {S T : List Nat} {st s1 : Nat → Nat → Int32} {so o1 : Nat → XR} {q : Nat} (h : SKs ad st so q) (hq : q < 4) (g : XG S st s1) (o : OG ad T so o1) (h4 : (if q = 1 then 8 else 4) ∈ S) (h5 : (if q = 1 then 9 else 5) ∈ S) (h3 : (if q = 1 then 3 else 4) ∈ T) : SKs ad s1 o1 q :=
  h.eq (g.2 _ _ (by rw [show 20 + 4 * q = 20 + 4 * q + 0 by omega, xcl_sn hq (by omega)]; exact h5)) (fun i => g.2 _ _ (by rw [xcl_sn hq (by omega)]; exact h4)) (fun i => o.2 _ _ (by rw [ocl_sn hq]; exact h3))
theorem SKs.mgs {ad : Nat → Nat} {S : List Nat} {st s1 : Nat → Nat → Int32} {so : Nat → XR} {q : Nat} (h : SKs ad st so q) (hq : q < 4) (g : XG S st s1) (h4 : (if q = 1 then 8 else 4) ∈ S) (h5 : (if q = 1 then 9 else 5) ∈ S) : SKs ad s1 so q :=
  h.eq (g.2 _ _ (by rw [show 20 + 4 * q = 20 + 4 * q + 0 by omega, xcl_sn hq (by omega)]; exact h5)) (fun i => g.2 _ _ (by rw [xcl_sn hq (by omega)]; exact h4)) (fun i => rfl)
theorem EV.recv {ad : Nat → Nat} {A : Nat → Prop} {s : State} {H : Heap} {locs : List Loc} (h : EV ad A s s.heap) (hS : va_S A s.heap H locs) {i : Nat} (hi : i < 26) : ∃ cell : Cell, H[ad i]? = some cell ∧ cell.vm.isStatics = false ∧ s.vm.findClass "OffTheLead$Word" = some cell.cls := va_recvE h.2.2.2.1 hi hS
theorem EV.any {ad : Nat → Nat} {A : Nat → Prop} {s : State} {H : Heap} {locs : List Loc} (h : EV ad A s s.heap) (hS : va_S A s.heap H locs) {i : Nat} (hi : i < 26) : va_Any "OffTheLead$Word" s H (ad i) := by
  obtain ⟨cell, h1, h2, h3⟩ := h.recv hS hi
  obtain ⟨kC, hkC, -⟩ := Vm.findClass_spec h3
  refine ⟨cell, h1, h2, ⟨kC, hkC⟩, fun comp hc => ?_⟩
  cases Option.some.inj (h3.symm.trans hc)
  exact va_asg _ _
theorem EV.eqw {ad : Nat → Nat} {A : Nat → Prop} {U : State} {H : Heap} (h : EV ad A U H) {i j : Nat} (hi : i < 26) (hj : j < 26) : (some (ad i) : Option Nat) = some (ad j) ↔ i = j := ⟨fun q => EV.inj h hi hj q, fun q => by rw [q]⟩
section XAW
variable {p : Program} {l : Launch} {e : Env} {R : Room} {s : State} {m : MethodId} {args : Array Value} {below : List Frame} {meth : Method} {c : Code} {H : Heap} {locs : List Loc} {cells slots : Nat} {Q : State → Prop}
variable {cc : ByteArray} {pc : Nat} {ls : Array Slot} {rest : List Value} {D : va_G} {cl : List vw_C} {A : Nat → Prop} {a : Nat} {tys : List (ClassId × FieldType)} {ws : va_W}
theorem zz_astw (hexec : p.tables.exec = Jvm.exec) (hb : c.code = cc) {ad : Nat → Nat} (hEv : EV ad A s s.heap) (hK : va_K D cl tys s) (hP : va_P D cl ws H) (hD : va_D A ws) (hS : va_S A s.heap H locs) (q0 t0 : Nat) {cA : ClassId} {n : Nat} {f : Nat → Option Nat} (ha : ws[q0]? = some (a, .inl (cA, n, .inr (.inr (.inr (.inr f)))))) (ht : tys[t0]? = some (cA, .object "OffTheLead$Word")) {x : Option Nat} (hw : isW ad x) {i : Int32} (hin : vp_in i n) (hdg : decode cc pc = .ok (.aastore, 1))
    (kk : ∀ (H1 : Heap) (locs1 : List Loc), va_P D cl (ws.set q0 (a, .inl (cA, n, .inr (.inr (.inr (.inr (va_up f i.toNatClampNeg x))))))) H1 → va_D A (ws.set q0 (a, .inl (cA, n, .inr (.inr (.inr (.inr (va_up f i.toNatClampNeg x))))))) → va_S A s.heap H1 locs1 → W p l e R s m args below meth c H1 locs1 cells slots Q (F0 m (pc + 1) ls rest)) : W p l e R s m args below meth c H locs cells slots Q (F0 m pc ls (va_rf x :: .int i :: .ref a :: rest)) := by
  rcases hw with rfl | ⟨j, hj, rfl⟩
  · exact va_astqN hexec hb hK hP hD hS q0 t0 ha ht hin hdg kk
  · exact va_astqM hexec hb hK hP hD hS q0 t0 ha ht (hEv.any hS hj) hin hdg kk
end XAW
