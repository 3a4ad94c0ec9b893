def fNF (q : String × Nat × String × String × String × String) : Cond := .fieldLinkNest q.1 q.2.1 q.2.2.1 q.2.2.2.1 q.2.2.2.2.1 q.2.2.2.2.2
def fNM (q : String × Nat × MethodName × String) : Cond := .methodLinkNest q.1 q.2.1 q.2.2.1 q.2.2.2
theorem nwF_in : ∀ q ∈ nwF, fNF q ∈ lw_tbl := by
  have h : nwF.map fNF = ([144, 148, 149, 150, 154, 156, 157, 158, 159, 161, 162, 163, 165, 167, 168, 170, 171, 174, 176, 225, 227, 228, 229, 230, 231, 232, 234, 235, 236, 238, 239, 240, 242, 243, 244, 246, 247, 248, 249, 250, 252, 253, 254, 255, 257, 258, 259, 260, 262, 263, 264, 265, 266, 295, 297, 298, 299, 300, 302, 303, 304, 305, 307, 308, 309, 311, 312, 313, 314, 316, 317, 318, 320, 321, 322, 339, 341, 342, 343, 344, 346, 347, 348, 350, 351, 352, 353, 355, 356, 357, 359, 360, 361, 363, 364, 365, 366, 368, 369, 370, 371, 373, 374, 375, 376, 377, 379, 380, 382, 383, 385, 386, 440, 468, 502] : List Nat).filterMap (fun i => lw_tbl[i]?) := by decide +kernel
  intro q hq
  have h1 : fNF q ∈ nwF.map fNF := List.mem_map.mpr ⟨q, hq, rfl⟩
  rw [h] at h1
  obtain ⟨i, -, hi⟩ := List.mem_filterMap.mp h1
  exact List.mem_of_getElem? hi
theorem nwM_in : ∀ q ∈ nwM, fNM q ∈ lw_tbl := by
  have h : nwM.map fNM = ([137, 220, 290, 414, 427, 458, 482, 773, 846, 877, 1345] : List Nat).filterMap (fun i => lw_tbl[i]?) := by decide +kernel
  intro q hq
  have h1 : fNM q ∈ nwM.map fNM := List.mem_map.mpr ⟨q, hq, rfl⟩
  rw [h] at h1
  obtain ⟨i, -, hi⟩ := List.mem_filterMap.mp h1
  exact List.mem_of_getElem? hi
theorem wd_l : ∀ i, i < 26 → (Cond.laysStatic "OffTheLead$Word" (wd_nm.getD i "") "LOffTheLead$Word;") ∈ lw_tbl := by decide +kernel
theorem wd_x : ∀ i, i < 26 → (Cond.exactly (.static "OffTheLead$Word" (wd_nm.getD i "") "LOffTheLead$Word;") "OffTheLead$Word") ∈ flatC (Jvm.Cond.and given_1 narrow_1) := by decide +kernel
theorem wd_o : ∀ i, i < 26 → (Cond.eq (.field (.static "OffTheLead$Word" (wd_nm.getD i "") "LOffTheLead$Word;") "java/lang/Enum" "ordinal" "I") (.int (Int32.ofNat i))) ∈ flatC (Jvm.Cond.and given_1 narrow_1) := by decide +kernel
theorem wd_one {args : Array Value} {s : State} {A : Nat → Prop} (hts0 : ∀ w ∈ lw_tbl, w.before args s = true) (hgv : (Jvm.Cond.and given_1 narrow_1).before args s = true) (hA : ∀ a : Nat, a < s.heap.size → ¬ A a) (i : Nat) (hi : i < 26) :
    ∃ a : Nat, va_Z "OffTheLead$Word" (wd_nm.getD i "") "LOffTheLead$Word;" (.ref a) A s s.heap ∧ va_O "OffTheLead$Word" a A s s.heap ∧ va_OF "java/lang/Enum" "ordinal" "I" (.int (Int32.ofNat i)) a A s s.heap := by
  have hs := flat_of_before _ hgv
  obtain ⟨ad, h1, -⟩ := va_Enof (args := args) (s := s) (E := "OffTheLead$Word") (d := "LOffTheLead$Word;") (nm := [wd_nm.getD i ""]) (F := [("java/lang/Enum", "ordinal", "I", [Int32.ofNat i])]) (A := A)
    (fun j hj => by obtain rfl : j = 0 := by simpa using hj
                    exact hts0 _ (wd_l i hi)) (hts0 (.initialized "OffTheLead$Word") (by decide +kernel))
    (fun j hj => by obtain rfl : j = 0 := by simpa using hj
                    exact hs _ (wd_x i hi))
    (fun q hq j hj => by obtain rfl : j = 0 := by simpa using hj
                         obtain rfl : q = ("java/lang/Enum", "ordinal", "I", [Int32.ofNat i]) := by simpa using hq
                         exact hs _ (wd_o i hi))
    (fun j k hj hk hn => by obtain rfl : j = 0 := by simpa using hj
                            obtain rfl : k = 0 := by simpa using hk
                            exact absurd rfl hn) hA
  obtain ⟨z1, z2, z3⟩ := h1 0 (by simp)
  exact ⟨ad 0, z1, z2, z3 ("java/lang/Enum", "ordinal", "I", [Int32.ofNat i]) (by simp)⟩
theorem va_OF_inj {o n d : String} {v w : Value} {t : Nat} {A B : Nat → Prop} {U : State} {H : Heap} (h : va_OF o n d v t A U H) (g : va_OF o n d w t B U H) : v = w := by
  obtain ⟨cf, k, i, f, cell, h1, h2, h3, h4, h5, h6⟩ := h
  obtain ⟨cf', k', i', f', cell', g1, g2, g3, g4, g5, g6⟩ := g
  cases Option.some.inj (h1.symm.trans g1)
  cases Option.some.inj (h3.symm.trans g3)
  exact Option.some.inj (h5.symm.trans g5)
theorem EV.start {args : Array Value} {s : State} {A : Nat → Prop} (hts0 : ∀ w ∈ lw_tbl, w.before args s = true) (hgv : (Jvm.Cond.and given_1 narrow_1).before args s = true) (hA : ∀ a : Nat, a < s.heap.size → ¬ A a) : ∃ ad : Nat → Nat, EV ad A s s.heap := by
  have hs := flat_of_before _ hgv
  have hw := wd_one (A := A) hts0 hgv hA
  refine ⟨fun i => if h : i < 26 then Classical.choose (hw i h) else 0, fun q hq => va_Nw.of rfl (hts0 _ (nwF_in q hq)), fun q hq => va_Nw.of rfl (hts0 _ (nwM_in q hq)), ⟨va_AO.of (hts0 (.arrayOver (.object RX2)) (by decide +kernel)), va_AO.of (hts0 (.arrayOver (.object RX4)) (by decide +kernel)), va_AO.of (hts0 (.arrayOver (.object RX6)) (by decide +kernel)), va_AO.of (hts0 (.arrayOver (.object RX7)) (by decide +kernel)), va_AO.of (hts0 (.arrayOver (.object RX10)) (by decide +kernel))⟩, ⟨fun i hi => ?_, fun i j hi hj e => ?_⟩, va_Zof (hts0 (.laysStatic "java/lang/String" "COMPACT_STRINGS" "Z") (by decide +kernel)) (hts0 (.initialized "java/lang/String") (by decide +kernel)) (va_eqi (hs _ (by decide +kernel))) hA⟩
  · have hi' : i < 26 := hi
    have h := Classical.choose_spec (hw i hi')
    simp only [hi', dite_true]
    refine ⟨h.1, h.2.1, fun q hq => ?_⟩
    obtain rfl : q = ("java/lang/Enum", "ordinal", "I", [0, 1, 2, 3, 4, 5, 6, 7, 8, 9, 10, 11, 12, 13, 14, 15, 16, 17, 18, 19, 20, 21, 22, 23, 24, 25]) := by simpa [wd_F] using hq
    have e2 : (([0, 1, 2, 3, 4, 5, 6, 7, 8, 9, 10, 11, 12, 13, 14, 15, 16, 17, 18, 19, 20, 21, 22, 23, 24, 25] : List Int32).getD i 0) = Int32.ofNat i := by
      have : ∀ i, i < 26 → (([0, 1, 2, 3, 4, 5, 6, 7, 8, 9, 10, 11, 12, 13, 14, 15, 16, 17, 18, 19, 20, 21, 22, 23, 24, 25] : List Int32).getD i 0) = Int32.ofNat i := by decide +kernel
      exact this i hi'
    show va_OF "java/lang/Enum" "ordinal" "I" (.int (([0, 1, 2, 3, 4, 5, 6, 7, 8, 9, 10, 11, 12, 13, 14, 15, 16, 17, 18, 19, 20, 21, 22, 23, 24, 25] : List Int32).getD i 0)) _ A s s.heap
    rw [e2]
    exact h.2.2
  · have hi' : i < 26 := hi
    have hj' : j < 26 := hj
    have h1 := (Classical.choose_spec (hw i hi')).2.2
    have h2 := (Classical.choose_spec (hw j hj')).2.2
    simp only [hi', hj', dite_true] at e
    rw [e] at h1
    have h3 := va_OF_inj h1 h2
    have h4 : Int32.ofNat i = Int32.ofNat j := by injection h3
    have : ∀ i, i < 26 → ∀ j, j < 26 → Int32.ofNat i = Int32.ofNat j → i = j := by decide +kernel
    exact this i hi' j hj' h4
theorem zz_nlt {x : Int32} (h : 1 ≤ x) : ¬ x < 0 := by
  simp only [Int32.lt_iff_toInt_lt, Int32.le_iff_toInt_le, Int32.reduceToInt] at h ⊢; omega
theorem zz_ge1 {n : Nat} (h2 : n ≤ 30) (h : 1 ≤ nI n) : 1 ≤ n := by
  rcases Nat.eq_zero_or_pos n with h0 | h0
  · rw [h0] at h; exact absurd h (by decide)
  · exact h0
theorem zz_64 {j : Nat} (h : j < 2 ^ 6) : j = 0 ∨ j = 1 ∨ j = 2 ∨ j = 3 ∨ j = 4 ∨ j = 5 ∨ j = 6 ∨ j = 7 ∨ j = 8 ∨ j = 9 ∨ j = 10 ∨ j = 11 ∨ j = 12 ∨ j = 13 ∨ j = 14 ∨ j = 15 ∨ j = 16 ∨ j = 17 ∨ j = 18 ∨ j = 19 ∨ j = 20 ∨ j = 21 ∨ j = 22 ∨ j = 23 ∨ j = 24 ∨ j = 25 ∨ j = 26 ∨ j = 27 ∨ j = 28 ∨ j = 29 ∨ j = 30 ∨ j = 31 ∨ j = 32 ∨ j = 33 ∨ j = 34 ∨ j = 35 ∨ j = 36 ∨ j = 37 ∨ j = 38 ∨ j = 39 ∨ 40 ≤ j := by omega
section ZX
variable {p : Program} {l : Launch} {e : Env} {R : Room} {s : State} {m : MethodId} {args : Array Value} {below : List Frame} {meth : Method} {c : Code} {H : Heap} {locs : List Loc} {cells slots : Nat} {Q : State → Prop} {pc : Nat} {ls : Array Slot} {rest : List Value}
theorem zz_topx {x : Int32} {P : Int32 → Prop} (h : P x) (k : ∀ z : Int32, P z → W p l e R s m args below meth c H locs cells slots Q (F0 m pc ls (.int z :: rest))) : W p l e R s m args below meth c H locs cells slots Q (F0 m pc ls (.int x :: rest)) := k x h
end ZX
def EX (A : Nat → Prop) (U : State) (H : Heap) : Prop := (va_Nw (.declares ⟨"java/lang/RuntimeException", "<init>", "()V"⟩) U ∧ va_Nw (.declares ⟨"java/lang/Exception", "<init>", "()V"⟩) U ∧ va_Nw (.declares ⟨"java/lang/Throwable", "<init>", "()V"⟩) U ∧ va_Nw (.castable "java/util/NoSuchElementException" "java/util/NoSuchElementException") U) ∧ vx_Zq Bundle.tN "UNASSIGNED_STACK" Bundle.steD A U H ∧ vx_Zq Bundle.tN "SUPPRESSED_SENTINEL" Bundle.listD A U H
theorem EX.call {A B : Nat → Prop} {s U : State} {H : Heap} {locs : List Loc} (h : EX A s s.heap) (hS : va_S A s.heap H locs) (hB : ∀ q, B q → A q) (hU : U.heap = H) (hW : s.WarmedH U.vm) : EX B U U.heap := by
  obtain ⟨⟨a1, a2, a3, a4⟩, h4, h5⟩ := h
  rw [hU]
  exact ⟨⟨va_Nw.warmD hW a1, va_Nw.warmD hW a2, va_Nw.warmD hW a3, va_Nw.warmC hW a4⟩, vx_Zq.moved hW.alike ((h4.kept hS.2.1).narrow hB), vx_Zq.moved hW.alike ((h5.kept hS.2.1).narrow hB)⟩
theorem EX.blind {A : Nat → Prop} {U : State} {g : JFrame} {mk : MethodId} {a : Array Value} (h : EX A U U.heap) : EX A (U.calling g mk a) (U.calling g mk a).heap := by
  obtain ⟨⟨a1, a2, a3, a4⟩, h4, h5⟩ := h
  have hv : U.vm.Alike (U.calling g mk a).vm := Vm.Alike.refl U.vm
  exact ⟨⟨va_Nw.same rfl rfl a1, va_Nw.same rfl rfl a2, va_Nw.same rfl rfl a3, va_Nw.same rfl rfl a4⟩, vx_Zq.moved hv h4, vx_Zq.moved hv h5⟩
theorem EX.start {args : Array Value} {s : State} {A : Nat → Prop} (hts0 : ∀ w ∈ lw_tbl, w.before args s = true) (hgv : (Jvm.Cond.and given_1 narrow_1).before args s = true) (hA : ∀ a : Nat, a < s.heap.size → ¬ A a) : EX A s s.heap := by
  have hs := flat_of_before _ hgv
  exact ⟨⟨va_Nw.of rfl (hts0 _ (by decide +kernel)), va_Nw.of rfl (hts0 _ (by decide +kernel)), va_Nw.of rfl (hts0 _ (by decide +kernel)), va_Nw.of rfl (hts0 _ (by decide +kernel))⟩, vx_Zqof (hts0 _ (by decide +kernel)) (hts0 _ (by decide +kernel)) (hs _ (by decide +kernel)) hA, vx_Zqof (hts0 _ (by decide +kernel)) (hts0 _ (by decide +kernel)) (hs _ (by decide +kernel)) hA⟩
theorem vx_bad : ∀ w ∈ (vx_at0 RX11 139 "java/util/NoSuchElementException" ["java/lang/RuntimeException", "java/lang/Exception"]).filter (fun w => !goodWord w), w ∈ ([.declares ⟨"java/lang/RuntimeException", "<init>", "()V"⟩, .declares ⟨"java/lang/Exception", "<init>", "()V"⟩, .declares ⟨"java/lang/Throwable", "<init>", "()V"⟩, .castable "java/util/NoSuchElementException" "java/util/NoSuchElementException"] : List Cond) := by decide +kernel
theorem vx_allot : ∀ w ∈ Cond.classLink RX11 137 "java/util/NoSuchElementException" :: Cond.initialized "java/util/NoSuchElementException" :: (vx_at0 RX11 139 "java/util/NoSuchElementException" ["java/lang/RuntimeException", "java/lang/Exception"]), vx_ot w = true := by decide +kernel
