/-! my own base: numbers on the stack, what is given of the place (EV), a contract's start and end (CP, CQ) -/
section ZZ
variable {p : Program} {l : Launch} {e : Env} {R : Room} {s : State} {m : MethodId} {args : Array Value} {below : List Frame} {meth : Method} {c : Code} {H : Heap} {locs : List Loc} {cells slots : Nat} {Q : State → Prop} {pc : Nat} {ls : Array Slot} {rest : List Value}
theorem zz_top {x v : Int32} (h : x = v) (k : W p l e R s m args below meth c H locs cells slots Q (F0 m pc ls (.int v :: rest))) : W p l e R s m args below meth c H locs cells slots Q (F0 m pc ls (.int x :: rest)) := by rw [h]; exact k
theorem zz_topl {x v : Int64} (h : x = v) (k : W p l e R s m args below meth c H locs cells slots Q (F0 m pc ls (.long v :: rest))) : W p l e R s m args below meth c H locs cells slots Q (F0 m pc ls (.long x :: rest)) := by rw [h]; exact k
theorem zz_topq {x r : Option Nat} (h : x = r) (k : W p l e R s m args below meth c H locs cells slots Q (F0 m pc ls (va_rf r :: rest))) : W p l e R s m args below meth c H locs cells slots Q (F0 m pc ls (va_rf x :: rest)) := by rw [h]; exact k
end ZZ
theorem zz_in {i : Int32} {n : Nat} (h : ¬ (i < 0 ∨ n ≤ i.toNatClampNeg)) : vp_in i n := h
theorem zz_fs {N : Nat} {ty : Nat → FieldType} {fs : List Value} (h : (List.range N).all (fun j => decide (defaultValue (ty j) = vp_V fs j)) = true) : ∀ j, j < N → defaultValue (ty j) = vp_V fs j := fun j hj => of_decide_eq_true (List.all_eq_true.mp h j (List.mem_range.mpr hj))
def nwF : List (String × Nat × String × String × String × String) := [("OffTheLead", 100, "OffTheLead$Tape", "size", "I", "OffTheLead"),
  ("OffTheLead$Book", 34, "OffTheLead$Tape", "sort", "I", "OffTheLead"),
  ("OffTheLead$ParkReader", 24, "OffTheLead$Tape", "sort", "I", "OffTheLead"),
  ("OffTheLead$Sentence", 54, "OffTheLead$Tape", "sort", "I", "OffTheLead"),
  ("OffTheLead$Sentence", 100, "OffTheLead$Tape", "value", "I", "OffTheLead"),
  ("OffTheLead$ParkReader", 29, "OffTheLead$Tape", "word", "LOffTheLead$Word;", "OffTheLead"),
  ("OffTheLead$Book", 50, "OffTheLead$Tape", "word", "LOffTheLead$Word;", "OffTheLead"),
  ("OffTheLead$Sentence", 35, "OffTheLead$Tape", "word", "LOffTheLead$Word;", "OffTheLead"),
  ("OffTheLead$Book", 57, "OffTheLead$Tape", "name", "J", "OffTheLead"),
  ("OffTheLead$ParkReader", 101, "OffTheLead$Tape", "taken", "I", "OffTheLead"),
  ("OffTheLead$Book", 102, "OffTheLead$Tape", "taken", "I", "OffTheLead"),
  ("OffTheLead$Sentence", 97, "OffTheLead$Tape", "taken", "I", "OffTheLead"),
  ("OffTheLead$ParkReader", 83, "OffTheLead$Tape", "takenName", "J", "OffTheLead"),
  ("OffTheLead$ParkReader", 121, "OffTheLead$Tape", "from", "I", "OffTheLead"),
  ("OffTheLead$Book", 113, "OffTheLead$Tape", "from", "I", "OffTheLead"),
  ("OffTheLead$ParkReader", 125, "OffTheLead$Tape", "to", "I", "OffTheLead"),
  ("OffTheLead$Book", 116, "OffTheLead$Tape", "to", "I", "OffTheLead"),
  ("OffTheLead", 380, "OffTheLead$Tape", "fault", "I", "OffTheLead"),
  ("OffTheLead", 120, "OffTheLead$Tape", "faultAt", "I", "OffTheLead"),
  ("OffTheLead$Park", 66, "OffTheLead$Person", "name", "J", "OffTheLead"),
  ("OffTheLead$Welfare", 25, "OffTheLead$Person", "place", "I", "OffTheLead"),
  ("OffTheLead$ParkReader", 116, "OffTheLead$Person", "place", "I", "OffTheLead"),
  ("OffTheLead$Days", 56, "OffTheLead$Person", "place", "I", "OffTheLead"),
  ("OffTheLead", 144, "OffTheLead$Person", "place", "I", "OffTheLead"),
  ("OffTheLead$Sentence", 141, "OffTheLead$Person", "place", "I", "OffTheLead"),
  ("OffTheLead$Park", 97, "OffTheLead$Person", "place", "I", "OffTheLead"),
  ("OffTheLead$ParkReader", 124, "OffTheLead$Person", "from", "I", "OffTheLead"),
  ("OffTheLead", 149, "OffTheLead$Person", "from", "I", "OffTheLead"),
  ("OffTheLead$Park", 100, "OffTheLead$Person", "from", "I", "OffTheLead"),
  ("OffTheLead$ParkReader", 128, "OffTheLead$Person", "to", "I", "OffTheLead"),
  ("OffTheLead", 152, "OffTheLead$Person", "to", "I", "OffTheLead"),
  ("OffTheLead$Park", 103, "OffTheLead$Person", "to", "I", "OffTheLead"),
  ("OffTheLead$Days", 39, "OffTheLead$Person", "fear", "I", "OffTheLead"),
  ("OffTheLead$ParkReader", 129, "OffTheLead$Person", "fear", "I", "OffTheLead"),
  ("OffTheLead", 155, "OffTheLead$Person", "fear", "I", "OffTheLead"),
  ("OffTheLead$Welfare", 30, "OffTheLead$Person", "away", "I", "OffTheLead"),
  ("OffTheLead$Days", 44, "OffTheLead$Person", "away", "I", "OffTheLead"),
  ("OffTheLead$Park", 70, "OffTheLead$Person", "away", "I", "OffTheLead"),
  ("OffTheLead", 158, "OffTheLead$Person", "away", "I", "OffTheLead"),
  ("OffTheLead$Sentence", 129, "OffTheLead$Person", "away", "I", "OffTheLead"),
  ("OffTheLead$Park", 73, "OffTheLead$Person", "frights", "I", "OffTheLead"),
  ("OffTheLead$Days", 94, "OffTheLead$Person", "frights", "I", "OffTheLead"),
  ("OffTheLead", 161, "OffTheLead$Person", "frights", "I", "OffTheLead"),
  ("OffTheLead$Sentence", 144, "OffTheLead$Person", "frights", "I", "OffTheLead"),
  ("OffTheLead$Park", 76, "OffTheLead$Person", "bites", "I", "OffTheLead"),
  ("OffTheLead$Days", 104, "OffTheLead$Person", "bites", "I", "OffTheLead"),
  ("OffTheLead", 164, "OffTheLead$Person", "bites", "I", "OffTheLead"),
  ("OffTheLead$Sentence", 151, "OffTheLead$Person", "bites", "I", "OffTheLead"),
  ("OffTheLead$Park", 77, "OffTheLead$Person", "dogs", "I", "OffTheLead"),
  ("OffTheLead$Days", 105, "OffTheLead$Person", "dogs", "I", "OffTheLead"),
  ("OffTheLead", 167, "OffTheLead$Person", "dogs", "I", "OffTheLead"),
  ("OffTheLead$Welfare", 100, "OffTheLead$Person", "dogs", "I", "OffTheLead"),
  ("OffTheLead$Sentence", 134, "OffTheLead$Person", "dogs", "I", "OffTheLead"),
  ("OffTheLead$Park", 79, "OffTheLead$Dog", "name", "J", "OffTheLead"),
  ("OffTheLead$Days", 51, "OffTheLead$Dog", "person", "I", "OffTheLead"),
  ("OffTheLead$Park", 80, "OffTheLead$Dog", "person", "I", "OffTheLead"),
  ("OffTheLead", 180, "OffTheLead$Dog", "person", "I", "OffTheLead"),
  ("OffTheLead$Welfare", 102, "OffTheLead$Dog", "person", "I", "OffTheLead"),
  ("OffTheLead$ParkReader", 139, "OffTheLead$Dog", "obeys", "I", "OffTheLead"),
  ("OffTheLead$Days", 85, "OffTheLead$Dog", "obeys", "I", "OffTheLead"),
  ("OffTheLead", 185, "OffTheLead$Dog", "obeys", "I", "OffTheLead"),
  ("OffTheLead$Welfare", 91, "OffTheLead$Dog", "obeys", "I", "OffTheLead"),
  ("OffTheLead$ParkReader", 144, "OffTheLead$Dog", "bites", "I", "OffTheLead"),
  ("OffTheLead$Days", 97, "OffTheLead$Dog", "bites", "I", "OffTheLead"),
  ("OffTheLead", 188, "OffTheLead$Dog", "bites", "I", "OffTheLead"),
  ("OffTheLead$Days", 59, "OffTheLead$Dog", "held", "Z", "OffTheLead"),
  ("OffTheLead$Park", 83, "OffTheLead$Dog", "held", "Z", "OffTheLead"),
  ("OffTheLead", 189, "OffTheLead$Dog", "held", "Z", "OffTheLead"),
  ("OffTheLead$Welfare", 105, "OffTheLead$Dog", "held", "Z", "OffTheLead"),
  ("OffTheLead$Days", 88, "OffTheLead$Dog", "ran", "I", "OffTheLead"),
  ("OffTheLead$Park", 87, "OffTheLead$Dog", "ran", "I", "OffTheLead"),
  ("OffTheLead", 193, "OffTheLead$Dog", "ran", "I", "OffTheLead"),
  ("OffTheLead$Days", 100, "OffTheLead$Dog", "bit", "I", "OffTheLead"),
  ("OffTheLead$Park", 90, "OffTheLead$Dog", "bit", "I", "OffTheLead"),
  ("OffTheLead", 196, "OffTheLead$Dog", "bit", "I", "OffTheLead"),
  ("OffTheLead", 329, "OffTheLead$Park", "placeNames", "[J", "OffTheLead"),
  ("OffTheLead$Days", 67, "OffTheLead$Park", "free", "[I", "OffTheLead"),
  ("OffTheLead$ParkReader", 147, "OffTheLead$Park", "free", "[I", "OffTheLead"),
  ("OffTheLead$Welfare", 80, "OffTheLead$Park", "free", "[I", "OffTheLead"),
  ("OffTheLead", 202, "OffTheLead$Park", "free", "[I", "OffTheLead"),
  ("OffTheLead$Welfare", 40, "OffTheLead$Park", "fenced", "[Z", "OffTheLead"),
  ("OffTheLead$Days", 78, "OffTheLead$Park", "fenced", "[Z", "OffTheLead"),
  ("OffTheLead", 205, "OffTheLead$Park", "fenced", "[Z", "OffTheLead"),
  ("OffTheLead$Welfare", 21, "OffTheLead$Park", "persons", "[LOffTheLead$Person;", "OffTheLead"),
  ("OffTheLead$Days", 35, "OffTheLead$Park", "persons", "[LOffTheLead$Person;", "OffTheLead"),
  ("OffTheLead", 140, "OffTheLead$Park", "persons", "[LOffTheLead$Person;", "OffTheLead"),
  ("OffTheLead$Sentence", 123, "OffTheLead$Park", "persons", "[LOffTheLead$Person;", "OffTheLead"),
  ("OffTheLead$Days", 47, "OffTheLead$Park", "dogs", "[LOffTheLead$Dog;", "OffTheLead"),
  ("OffTheLead", 177, "OffTheLead$Park", "dogs", "[LOffTheLead$Dog;", "OffTheLead"),
  ("OffTheLead$Welfare", 87, "OffTheLead$Park", "dogs", "[LOffTheLead$Dog;", "OffTheLead"),
  ("OffTheLead$ParkReader", 70, "OffTheLead$Park", "placeCount", "I", "OffTheLead"),
  ("OffTheLead$Welfare", 37, "OffTheLead$Park", "placeCount", "I", "OffTheLead"),
  ("OffTheLead", 374, "OffTheLead$Park", "placeCount", "I", "OffTheLead"),
  ("OffTheLead$Welfare", 17, "OffTheLead$Park", "personCount", "I", "OffTheLead"),
  ("OffTheLead$ParkReader", 94, "OffTheLead$Park", "personCount", "I", "OffTheLead"),
  ("OffTheLead$Days", 32, "OffTheLead$Park", "personCount", "I", "OffTheLead"),
  ("OffTheLead", 367, "OffTheLead$Park", "personCount", "I", "OffTheLead"),
  ("OffTheLead$Days", 25, "OffTheLead$Park", "dogCount", "I", "OffTheLead"),
  ("OffTheLead$ParkReader", 132, "OffTheLead$Park", "dogCount", "I", "OffTheLead"),
  ("OffTheLead$Welfare", 62, "OffTheLead$Park", "dogCount", "I", "OffTheLead"),
  ("OffTheLead", 377, "OffTheLead$Park", "dogCount", "I", "OffTheLead"),
  ("OffTheLead$Days", 75, "OffTheLead$Park", "sign", "I", "OffTheLead"),
  ("OffTheLead$ParkReader", 155, "OffTheLead$Park", "sign", "I", "OffTheLead"),
  ("OffTheLead$Welfare", 84, "OffTheLead$Park", "sign", "I", "OffTheLead"),
  ("OffTheLead", 219, "OffTheLead$Park", "sign", "I", "OffTheLead"),
  ("OffTheLead$Days", 15, "OffTheLead$Park", "day", "I", "OffTheLead"),
  ("OffTheLead$Book", 160, "OffTheLead$Park", "day", "I", "OffTheLead"),
  ("OffTheLead", 212, "OffTheLead$Park", "day", "I", "OffTheLead"),
  ("OffTheLead$Days", 91, "OffTheLead$Park", "complaints", "I", "OffTheLead"),
  ("OffTheLead", 222, "OffTheLead$Park", "complaints", "I", "OffTheLead"),
  ("OffTheLead$Days", 103, "OffTheLead$Park", "bites", "I", "OffTheLead"),
  ("OffTheLead", 225, "OffTheLead$Park", "bites", "I", "OffTheLead"),
  ("OffTheLead", 354, "OffTheLead$Book", "why", "I", "OffTheLead"),
  ("OffTheLead", 364, "OffTheLead$Sentence", "ones", "I", "OffTheLead"),
  ("OffTheLead", 275, "OffTheLead$History", "size", "I", "OffTheLead")]
def nwM : List (String × Nat × MethodName × String) := [("OffTheLead", 9, yX8_init, "OffTheLead"),
  ("OffTheLead$Park", 35, yX6_init, "OffTheLead"),
  ("OffTheLead$Park", 36, yX2_init, "OffTheLead"),
  ("OffTheLead", 28, yX5_init, "OffTheLead"),
  ("OffTheLead", 35, yX0_init, "OffTheLead"),
  ("OffTheLead", 42, yX7_init, "OffTheLead"),
  ("OffTheLead", 52, yX1_init, "OffTheLead"),
  ("OffTheLead$ParkReader", 151, yX11_hoursOf, "OffTheLead"),
  ("OffTheLead$Person", 38, yX11_hoursOf, "OffTheLead"),
  ("OffTheLead$Park", 93, yX11_hoursOf, "OffTheLead"),
  ("OffTheLead", 357, yX7_readCond, "OffTheLead")]
def wd_nm : List String := ["PLACE", "FENCED", "PERSON", "DOG", "FREE", "SIGN", "ALLOW", "FORBID", "FENCE", "HELD", "LOOSE", "COMES", "DAY", "OR", "AND", "NOT", "AWAY", "OWNER", "MEETS", "AT", "FRIGHTS", "BITES", "GOOD", "NUMBER", "NAME", "NO_WORD"]
def wd_F : List (String × String × String × List Int32) := [("java/lang/Enum", "ordinal", "I", [0, 1, 2, 3, 4, 5, 6, 7, 8, 9, 10, 11, 12, 13, 14, 15, 16, 17, 18, 19, 20, 21, 22, 23, 24, 25])]
def EV (ad : Nat → Nat) (A : Nat → Prop) (U : State) (H : Heap) : Prop :=
  (∀ q ∈ nwF, va_Nw (.fieldLinkNest q.1 q.2.1 q.2.2.1 q.2.2.2.1 q.2.2.2.2.1 q.2.2.2.2.2) U) ∧ (∀ q ∈ nwM, va_Nw (.methodLinkNest q.1 q.2.1 q.2.2.1 q.2.2.2) U) ∧ (va_AO RX2 U ∧ va_AO RX4 U ∧ va_AO RX6 U ∧ va_AO RX7 U ∧ va_AO RX10 U) ∧ va_En "OffTheLead$Word" "LOffTheLead$Word;" wd_nm wd_F ad A U H ∧ va_Z "java/lang/String" "COMPACT_STRINGS" "Z" (.int 1) A U H
theorem EV.call {ad : Nat → Nat} {A B : Nat → Prop} {s U : State} {H : Heap} {locs : List Loc} (h : EV ad A s s.heap) (hS : va_S A s.heap H locs) (hB : ∀ q, B q → A q) (hU : U.heap = H) (hW : s.WarmedH U.vm) : EV ad B U U.heap := by
  obtain ⟨h1, h2, ⟨a0, a1, a2, a3, a4⟩, h4, h5⟩ := h
  rw [hU]
  exact ⟨fun q hq => va_Nw.warmF hW (h1 q hq), fun q hq => va_Nw.warmM hW (h2 q hq), ⟨va_AO.moved hW.alike a0, va_AO.moved hW.alike a1, va_AO.moved hW.alike a2, va_AO.moved hW.alike a3, va_AO.moved hW.alike a4⟩, va_En.moved hW.alike ((h4.kept hS.2.1).narrow hB), va_Z.moved hW.alike ((h5.kept hS.2.1).narrow hB)⟩
theorem EV.blind {ad : Nat → Nat} {A : Nat → Prop} {U : State} {g : JFrame} {mk : MethodId} {a : Array Value} (h : EV ad A U U.heap) : EV ad A (U.calling g mk a) (U.calling g mk a).heap := by
  obtain ⟨h1, h2, ⟨a0, a1, a2, a3, a4⟩, h4, h5⟩ := h
  have hv : U.vm.Alike (U.calling g mk a).vm := Vm.Alike.refl U.vm
  exact ⟨fun q hq => va_Nw.same rfl rfl (h1 q hq), fun q hq => va_Nw.same rfl rfl (h2 q hq), ⟨va_AO.moved hv a0, va_AO.moved hv a1, va_AO.moved hv a2, va_AO.moved hv a3, va_AO.moved hv a4⟩, va_En.moved hv h4, va_Z.moved hv h5⟩
theorem EV.ao_X2 {ad : Nat → Nat} {A : Nat → Prop} {U : State} {H : Heap} (h : EV ad A U H) : va_AO RX2 U := h.2.2.1.1
theorem EV.ao_X4 {ad : Nat → Nat} {A : Nat → Prop} {U : State} {H : Heap} (h : EV ad A U H) : va_AO RX4 U := h.2.2.1.2.1
theorem EV.ao_X6 {ad : Nat → Nat} {A : Nat → Prop} {U : State} {H : Heap} (h : EV ad A U H) : va_AO RX6 U := h.2.2.1.2.2.1
theorem EV.ao_X7 {ad : Nat → Nat} {A : Nat → Prop} {U : State} {H : Heap} (h : EV ad A U H) : va_AO RX7 U := h.2.2.1.2.2.2.1
theorem EV.ao_X10 {ad : Nat → Nat} {A : Nat → Prop} {U : State} {H : Heap} (h : EV ad A U H) : va_AO RX10 U := h.2.2.1.2.2.2.2
theorem EV.word {ad : Nat → Nat} {A : Nat → Prop} {U : State} {H : Heap} (h : EV ad A U H) {i : Nat} (hi : i < wd_nm.length) : va_Z "OffTheLead$Word" (wd_nm.getD i "") "LOffTheLead$Word;" (.ref (ad i)) A U H := (h.2.2.2.1.1 i hi).1
theorem EV.compact {ad : Nat → Nat} {A : Nat → Prop} {U : State} {H : Heap} (h : EV ad A U H) : va_Z "java/lang/String" "COMPACT_STRINGS" "Z" (.int 1) A U H := h.2.2.2.2
theorem EV.ne {ad : Nat → Nat} {A : Nat → Prop} {U : State} {H : Heap} (h : EV ad A U H) {i j : Nat} (hi : i < wd_nm.length) (hj : j < wd_nm.length) (hn : i ≠ j) : ¬ (some (ad i) : Option Nat) = some (ad j) := fun q => hn (h.2.2.2.1.2 i j hi hj (Option.some.inj q))
