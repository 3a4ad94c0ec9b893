def nwF : List (String × Nat × String × String × String × String) := [("OffTheLead", 100, "OffTheLead$Tape", "size", "I", "OffTheLead"),
  ("OffTheLead$Book", 34, "OffTheLead$Tape", "sort", "I", "OffTheLead"),
  ("OffTheLead$ParkReader", 24, "OffTheLead$Tape", "sort", "I", "OffTheLead"),
  ("OffTheLead$Sentence", 54, "OffTheLead$Tape", "sort", "I", "OffTheLead"),
  ("OffTheLead$Sentence", 100, "OffTheLead$Tape", "value", "I", "OffTheLead"),
  ("OffTheLead$ParkReader", 29, "OffTheLead$Tape", "word", "LOffTheLead$Word;", "OffTheLead"),
  ("OffTheLead$Book", 50, "OffTheLead$Tape", "word", "LOffTheLead$Word;", "OffTheLead"),
  ("OffTheLead$Sentence", 35, "OffTheLead$Tape", "word", "LOffTheLead$Word;", "OffTheLead"),
  ("OffTheLead$Book", 57, "OffTheLead$Tape", "name", "J", "OffTheLead"),
  ("OffTheLead$ParkReader", 101, "OffTheLead$Tape", "taken", "I", "OffTheLead"),
  ("OffTheLead$Book", 102, "OffTheLead$Tape", "taken", "I", "OffTheLead"),
  ("OffTheLead$Sentence", 97, "OffTheLead$Tape", "taken", "I", "OffTheLead"),
  ("OffTheLead$ParkReader", 83, "OffTheLead$Tape", "takenName", "J", "OffTheLead"),
  ("OffTheLead$ParkReader", 121, "OffTheLead$Tape", "from", "I", "OffTheLead"),
  ("OffTheLead$Book", 113, "OffTheLead$Tape", "from", "I", "OffTheLead"),
  ("OffTheLead$ParkReader", 125, "OffTheLead$Tape", "to", "I", "OffTheLead"),
  ("OffTheLead$Book", 116, "OffTheLead$Tape", "to", "I", "OffTheLead"),
  ("OffTheLead", 380, "OffTheLead$Tape", "fault", "I", "OffTheLead"),
  ("OffTheLead", 120, "OffTheLead$Tape", "faultAt", "I", "OffTheLead"),
  ("OffTheLead$Park", 66, "OffTheLead$Person", "name", "J", "OffTheLead"),
  ("OffTheLead$Welfare", 25, "OffTheLead$Person", "place", "I", "OffTheLead"),
  ("OffTheLead$ParkReader", 116, "OffTheLead$Person", "place", "I", "OffTheLead"),
  ("OffTheLead$Days", 56, "OffTheLead$Person", "place", "I", "OffTheLead"),
  ("OffTheLead", 144, "OffTheLead$Person", "place", "I", "OffTheLead"),
  ("OffTheLead$Sentence", 141, "OffTheLead$Person", "place", "I", "OffTheLead"),
  ("OffTheLead$Park", 97, "OffTheLead$Person", "place", "I", "OffTheLead"),
  ("OffTheLead$ParkReader", 124, "OffTheLead$Person", "from", "I", "OffTheLead"),
  ("OffTheLead", 149, "OffTheLead$Person", "from", "I", "OffTheLead"),
  ("OffTheLead$Park", 100, "OffTheLead$Person", "from", "I", "OffTheLead"),
  ("OffTheLead$ParkReader", 128, "OffTheLead$Person", "to", "I", "OffTheLead"),
  ("OffTheLead", 152, "OffTheLead$Person", "to", "I", "OffTheLead"),
  ("OffTheLead$Park", 103, "OffTheLead$Person", "to", "I", "OffTheLead"),
  ("OffTheLead$Days", 39, "OffTheLead$Person", "fear", "I", "OffTheLead"),
  ("OffTheLead$ParkReader", 129, "OffTheLead$Person", "fear", "I", "OffTheLead"),
  ("OffTheLead", 155, "OffTheLead$Person", "fear", "I", "OffTheLead"),
  ("OffTheLead$Welfare", 30, "OffTheLead$Person", "away", "I", "OffTheLead"),
  ("OffTheLead$Days", 44, "OffTheLead$Person", "away", "I", "OffTheLead"),
  ("OffTheLead$Park", 70, "OffTheLead$Person", "away", "I", "OffTheLead"),
  ("OffTheLead", 158, "OffTheLead$Person", "away", "I", "OffTheLead"),
  ("OffTheLead$Sentence", 129, "OffTheLead$Person", "away", "I", "OffTheLead"),
  ("OffTheLead$Park", 73, "OffTheLead$Person", "frights", "I", "OffTheLead"),
  ("OffTheLead$Days", 94, "OffTheLead$Person", "frights", "I", "OffTheLead"),
  ("OffTheLead", 161, "OffTheLead$Person", "frights", "I", "OffTheLead"),
  ("OffTheLead$Sentence", 144, "OffTheLead$Person", "frights", "I", "OffTheLead"),
  ("OffTheLead$Park", 76, "OffTheLead$Person", "bites", "I", "OffTheLead"),
  ("OffTheLead$Days", 104, "OffTheLead$Person", "bites", "I", "OffTheLead"),
  ("OffTheLead", 164, "OffTheLead$Person", "bites", "I", "OffTheLead"),
  ("OffTheLead$Sentence", 151, "OffTheLead$Person", "bites", "I", "OffTheLead"),
  ("OffTheLead$Park", 77, "OffTheLead$Person", "dogs", "I", "OffTheLead"),
  ("OffTheLead$Days", 105, "OffTheLead$Person", "dogs", "I", "OffTheLead"),
  ("OffTheLead", 167, "OffTheLead$Person", "dogs", "I", "OffTheLead"),
  ("OffTheLead$Welfare", 100, "OffTheLead$Person", "dogs", "I", "OffTheLead"),
  ("OffTheLead$Sentence", 134, "OffTheLead$Person", "dogs", "I", "OffTheLead"),
  ("OffTheLead$Park", 79, "OffTheLead$Dog", "name", "J", "OffTheLead"),
  ("OffTheLead$Days", 51, "OffTheLead$Dog", "person", "I", "OffTheLead"),
  ("OffTheLead$Park", 80, "OffTheLead$Dog", "person", "I", "OffTheLead"),
  ("OffTheLead", 180, "OffTheLead$Dog", "person", "I", "OffTheLead"),
  ("OffTheLead$Welfare", 102, "OffTheLead$Dog", "person", "I", "OffTheLead"),
  ("OffTheLead$ParkReader", 139, "OffTheLead$Dog", "obeys", "I", "OffTheLead"),
  ("OffTheLead$Days", 85, "OffTheLead$Dog", "obeys", "I", "OffTheLead"),
  ("OffTheLead", 185, "OffTheLead$Dog", "obeys", "I", "OffTheLead"),
  ("OffTheLead$Welfare", 91, "OffTheLead$Dog", "obeys", "I", "OffTheLead"),
  ("OffTheLead$ParkReader", 144, "OffTheLead$Dog", "bites", "I", "OffTheLead"),
  ("OffTheLead$Days", 97, "OffTheLead$Dog", "bites", "I", "OffTheLead"),
  ("OffTheLead", 188, "OffTheLead$Dog", "bites", "I", "OffTheLead"),
  ("OffTheLead$Days", 59, "OffTheLead$Dog", "held", "Z", "OffTheLead"),
  ("OffTheLead$Park", 83, "OffTheLead$Dog", "held", "Z", "OffTheLead"),
  ("OffTheLead", 189, "OffTheLead$Dog", "held", "Z", "OffTheLead"),
  ("OffTheLead$Welfare", 105, "OffTheLead$Dog", "held", "Z", "OffTheLead"),
  ("OffTheLead$Days", 88, "OffTheLead$Dog", "ran", "I", "OffTheLead"),
  ("OffTheLead$Park", 87, "OffTheLead$Dog", "ran", "I", "OffTheLead"),
  ("OffTheLead", 193, "OffTheLead$Dog", "ran", "I", "OffTheLead"),
  ("OffTheLead$Days", 100, "OffTheLead$Dog", "bit", "I", "OffTheLead"),
  ("OffTheLead$Park", 90, "OffTheLead$Dog", "bit", "I", "OffTheLead"),
  ("OffTheLead", 196, "OffTheLead$Dog", "bit", "I", "OffTheLead"),
  ("OffTheLead", 329, "OffTheLead$Park", "placeNames", "[J", "OffTheLead"),
  ("OffTheLead$Days", 67, "OffTheLead$Park", "free", "[I", "OffTheLead"),
  ("OffTheLead$ParkReader", 147, "OffTheLead$Park", "free", "[I", "OffTheLead"),
  ("OffTheLead$Welfare", 80, "OffTheLead$Park", "free", "[I", "OffTheLead"),
  ("OffTheLead", 202, "OffTheLead$Park", "free", "[I", "OffTheLead"),
  ("OffTheLead$Welfare", 40, "OffTheLead$Park", "fenced", "[Z", "OffTheLead"),
  ("OffTheLead$Days", 78, "OffTheLead$Park", "fenced", "[Z", "OffTheLead"),
  ("OffTheLead", 205, "OffTheLead$Park", "fenced", "[Z", "OffTheLead"),
  ("OffTheLead$Welfare", 21, "OffTheLead$Park", "persons", "[LOffTheLead$Person;", "OffTheLead"),
  ("OffTheLead$Days", 35, "OffTheLead$Park", "persons", "[LOffTheLead$Person;", "OffTheLead"),
  ("OffTheLead", 140, "OffTheLead$Park", "persons", "[LOffTheLead$Person;", "OffTheLead"),
  ("OffTheLead$Sentence", 123, "OffTheLead$Park", "persons", "[LOffTheLead$Person;", "OffTheLead"),
  ("OffTheLead$Days", 47, "OffTheLead$Park", "dogs", "[LOffTheLead$Dog;", "OffTheLead"),
  ("OffTheLead", 177, "OffTheLead$Park", "dogs", "[LOffTheLead$Dog;", "OffTheLead"),
  ("OffTheLead$Welfare", 87, "OffTheLead$Park", "dogs", "[LOffTheLead$Dog;", "OffTheLead"),
  ("OffTheLead$ParkReader", 70, "OffTheLead$Park", "placeCount", "I", "OffTheLead"),
  ("OffTheLead$Welfare", 37, "OffTheLead$Park", "placeCount", "I", "OffTheLead"),
  ("OffTheLead", 374, "OffTheLead$Park", "placeCount", "I", "OffTheLead"),
  ("OffTheLead$Welfare", 17, "OffTheLead$Park", "personCount", "I", "OffTheLead"),
  ("OffTheLead$ParkReader", 94, "OffTheLead$Park", "personCount", "I", "OffTheLead"),
  ("OffTheLead$Days", 32, "OffTheLead$Park", "personCount", "I", "OffTheLead"),
  ("OffTheLead", 367, "OffTheLead$Park", "personCount", "I", "OffTheLead"),
  ("OffTheLead$Days", 25, "OffTheLead$Park", "dogCount", "I", "OffTheLead"),
  ("OffTheLead$ParkReader", 132, "OffTheLead$Park", "dogCount", "I", "OffTheLead"),
  ("OffTheLead$Welfare", 62, "OffTheLead$Park", "dogCount", "I", "OffTheLead"),
  ("OffTheLead", 377, "OffTheLead$Park", "dogCount", "I", "OffTheLead"),
  ("OffTheLead$Days", 75, "OffTheLead$Park", "sign", "I", "OffTheLead"),
  ("OffTheLead$ParkReader", 155, "OffTheLead$Park", "sign", "I", "OffTheLead"),
  ("OffTheLead$Welfare", 84, "OffTheLead$Park", "sign", "I", "OffTheLead"),
  ("OffTheLead", 219, "OffTheLead$Park", "sign", "I", "OffTheLead"),
  ("OffTheLead$Days", 15, "OffTheLead$Park", "day", "I", "OffTheLead"),
  ("OffTheLead$Book", 160, "OffTheLead$Park", "day", "I", "OffTheLead"),
  ("OffTheLead", 212, "OffTheLead$Park", "day", "I", "OffTheLead"),
  ("OffTheLead$Days", 91, "OffTheLead$Park", "complaints", "I", "OffTheLead"),
  ("OffTheLead", 222, "OffTheLead$Park", "complaints", "I", "OffTheLead"),
  ("OffTheLead$Days", 103, "OffTheLead$Park", "bites", "I", "OffTheLead"),
  ("OffTheLead", 225, "OffTheLead$Park", "bites", "I", "OffTheLead"),
  ("OffTheLead", 354, "OffTheLead$Book", "why", "I", "OffTheLead"),
  ("OffTheLead", 364, "OffTheLead$Sentence", "ones", "I", "OffTheLead"),
  ("OffTheLead", 275, "OffTheLead$History", "size", "I", "OffTheLead")]
def nwM : List (String × Nat × MethodName × String) := [("OffTheLead", 9, yX8_init, "OffTheLead"),
  ("OffTheLead$Park", 35, yX6_init, "OffTheLead"),
  ("OffTheLead$Park", 36, yX2_init, "OffTheLead"),
  ("OffTheLead", 28, yX5_init, "OffTheLead"),
  ("OffTheLead", 35, yX0_init, "OffTheLead"),
  ("OffTheLead", 42, yX7_init, "OffTheLead"),
  ("OffTheLead", 52, yX1_init, "OffTheLead"),
  ("OffTheLead$ParkReader", 151, yX11_hoursOf, "OffTheLead"),
  ("OffTheLead$Person", 38, yX11_hoursOf, "OffTheLead"),
  ("OffTheLead$Park", 93, yX11_hoursOf, "OffTheLead"),
  ("OffTheLead", 357, yX7_readCond, "OffTheLead")]
def wd_nm : List String := ["PLACE", "FENCED", "PERSON", "DOG", "FREE", "SIGN", "ALLOW", "FORBID", "FENCE", "HELD", "LOOSE", "COMES", "DAY", "OR", "AND", "NOT", "AWAY", "OWNER", "MEETS", "AT", "FRIGHTS", "BITES", "GOOD", "NUMBER", "NAME", "NO_WORD"]
def wd_F : List (String × String × String × List Int32) := [("java/lang/Enum", "ordinal", "I", [0, 1, 2, 3, 4, 5, 6, 7, 8, 9, 10, 11, 12, 13, 14, 15, 16, 17, 18, 19, 20, 21, 22, 23, 24, 25])]
def sv_len : List Nat := [5, 6, 6, 3, 4, 4, 5, 6, 5, 4, 5, 5, 3, 2, 3, 3, 4, 5, 5, 2, 7, 5, 4, 6, 0, 0, 12, 6, 4, 9]
def sv_byt : List (List Int32) := [[112, 108, 97, 99, 101], [102, 101, 110, 99, 101, 100], [112, 101, 114, 115, 111, 110], [100, 111, 103], [102, 114, 101, 101], [115, 105, 103, 110], [97, 108, 108, 111, 119], [102, 111, 114, 98, 105, 100], [102, 101, 110, 99, 101], [104, 101, 108, 100], [108, 111, 111, 115, 101], [99, 111, 109, 101, 115], [100, 97, 121], [111, 114], [97, 110, 100], [110, 111, 116], [97, 119, 97, 121], [111, 119, 110, 101, 114], [109, 101, 101, 116, 115], [97, 116], [102, 114, 105, 103, 104, 116, 115], [98, 105, 116, 101, 115], [103, 111, 111, 100], [110, 117, 109, 98, 101, 114], [], [], [32, 111, 110, 32, 116, 104, 101, 32, 108, 101, 97, 100], [32, 102, 114, 101, 101, 32], [32, 116, 111, 32], [32, 97, 110, 100, 32, 109, 111, 114, 101]]
def sv_d1 : List Int32 := [48, 49, 50, 51, 52, 53, 54, 55, 56, 57, 48, 49, 50, 51, 52, 53, 54, 55, 56, 57, 48, 49, 50, 51, 52, 53, 54, 55, 56, 57, 48, 49, 50, 51, 52, 53, 54, 55, 56, 57, 48, 49, 50, 51, 52, 53, 54, 55, 56, 57, 48, 49, 50, 51, 52, 53, 54, 55, 56, 57, 48, 49, 50, 51, 52, 53, 54, 55, 56, 57, 48, 49, 50, 51, 52, 53, 54, 55, 56, 57, 48, 49, 50, 51, 52, 53, 54, 55, 56, 57, 48, 49, 50, 51, 52, 53, 54, 55, 56, 57]
def sv_d10 : List Int32 := [48, 48, 48, 48, 48, 48, 48, 48, 48, 48, 49, 49, 49, 49, 49, 49, 49, 49, 49, 49, 50, 50, 50, 50, 50, 50, 50, 50, 50, 50, 51, 51, 51, 51, 51, 51, 51, 51, 51, 51, 52, 52, 52, 52, 52, 52, 52, 52, 52, 52, 53, 53, 53, 53, 53, 53, 53, 53, 53, 53, 54, 54, 54, 54, 54, 54, 54, 54, 54, 54, 55, 55, 55, 55, 55, 55, 55, 55, 55, 55, 56, 56, 56, 56, 56, 56, 56, 56, 56, 56, 57, 57, 57, 57, 57, 57, 57, 57, 57, 57]
def SV1 (ad : Nat → Nat) (i : Nat) (A : Nat → Prop) (U : State) (H : Heap) : Prop := va_O "java/lang/String" (ad (100 + i)) A U H ∧ va_OF "java/lang/String" "coder" "B" (.int 0) (ad (100 + i)) A U H ∧ va_OF "java/lang/String" "value" "[B" (.ref (ad (200 + i))) (ad (100 + i)) A U H ∧ va_T .byte (ad (200 + i)) (sv_len.getD i 0) (fun j => .int ((sv_byt.getD i []).getD j 0)) A U H
def SV (ad : Nat → Nat) (A : Nat → Prop) (U : State) (H : Heap) : Prop := (va_Z "OffTheLead$Word" "ALL" "[LOffTheLead$Word;" (.ref (ad 300)) A U H ∧ va_T (.object "OffTheLead$Word") (ad 300) 26 (fun j => .ref (ad j)) A U H ∧ ∀ i, i < 26 → va_OF "OffTheLead$Word" "text" "Ljava/lang/String;" (.ref (ad (100 + i))) (ad i) A U H) ∧ (∀ i, i < 30 → SV1 ad i A U H) ∧ (vk_R "OffTheLead" 386 " on the lead" (ad (100 + 26)) U ∧ vk_R "OffTheLead" 391 " free " (ad (100 + 27)) U ∧ vk_R "OffTheLead" 396 " to " (ad (100 + 28)) U ∧ vk_R "OffTheLead" 398 " and more" (ad (100 + 29)) U) ∧ ((va_Z "java/lang/Integer" "DigitOnes" "[B" (.ref (ad 301)) A U H ∧ va_T .byte (ad 301) 100 (fun j => .int (sv_d1.getD j 0)) A U H) ∧ va_Z "java/lang/Integer" "DigitTens" "[B" (.ref (ad 302)) A U H ∧ va_T .byte (ad 302) 100 (fun j => .int (sv_d10.getD j 0)) A U H) ∧ va_Zq "jdk/internal/util/Preconditions" "SIOOBE_FORMATTER" "Ljava/util/function/BiFunction;" A U H
theorem SV.call {ad : Nat → Nat} {A B : Nat → Prop} {s U : State} {H : Heap} {locs : List Loc} (h : SV ad A s s.heap) (hS : va_S A s.heap H locs) (hB : ∀ q, B q → A q) (hW : s.WarmedH U.vm) : SV ad B U H := by
  obtain ⟨⟨h1, h2, h3⟩, h4, ⟨r1, r2, r3, r4⟩, ⟨⟨g1, g2⟩, g3, g4⟩, h5⟩ := h
  refine ⟨⟨va_Z.moved hW.alike ((h1.kept hS.2.1).narrow hB), va_T.moved hW.alike ((h2.kept hS.2.1).narrow hB), fun i hi => va_OF.moved hW.alike (((h3 i hi).kept hS.2.1).narrow hB)⟩, fun i hi => ?_, ⟨vk_R.warm hW r1, vk_R.warm hW r2, vk_R.warm hW r3, vk_R.warm hW r4⟩, ⟨⟨va_Z.moved hW.alike ((g1.kept hS.2.1).narrow hB), va_T.moved hW.alike ((g2.kept hS.2.1).narrow hB)⟩, va_Z.moved hW.alike ((g3.kept hS.2.1).narrow hB), va_T.moved hW.alike ((g4.kept hS.2.1).narrow hB)⟩, va_Zq.moved hW.alike ((h5.kept hS.2.1).narrow hB)⟩
  obtain ⟨a1, a2, a3, a4⟩ := h4 i hi
  exact ⟨va_O.moved hW.alike ((a1.kept hS.2.1).narrow hB), va_OF.moved hW.alike ((a2.kept hS.2.1).narrow hB), va_OF.moved hW.alike ((a3.kept hS.2.1).narrow hB), va_T.moved hW.alike ((a4.kept hS.2.1).narrow hB)⟩
theorem SV.blind {ad : Nat → Nat} {A : Nat → Prop} {U : State} {g : JFrame} {mk : MethodId} {a : Array Value} (h : SV ad A U U.heap) : SV ad A (U.calling g mk a) (U.calling g mk a).heap := by
  have hv : U.vm.Alike (U.calling g mk a).vm := Vm.Alike.refl U.vm
  obtain ⟨⟨h1, h2, h3⟩, h4, ⟨r1, r2, r3, r4⟩, ⟨⟨g1, g2⟩, g3, g4⟩, h5⟩ := h
  refine ⟨⟨va_Z.moved hv h1, va_T.moved hv h2, fun i hi => va_OF.moved hv (h3 i hi)⟩, fun i hi => ?_, ⟨vk_R.same (u := U) rfl r1, vk_R.same (u := U) rfl r2, vk_R.same (u := U) rfl r3, vk_R.same (u := U) rfl r4⟩, ⟨⟨va_Z.moved hv g1, va_T.moved hv g2⟩, va_Z.moved hv g3, va_T.moved hv g4⟩, va_Zq.moved hv h5⟩
  obtain ⟨a1, a2, a3, a4⟩ := h4 i hi
  exact ⟨va_O.moved hv a1, va_OF.moved hv a2, va_OF.moved hv a3, va_T.moved hv a4⟩
theorem SV.recv {ad : Nat → Nat} {A : Nat → Prop} {s : State} {H : Heap} {locs : List Loc} (h : SV ad A s s.heap) (hS : va_S A s.heap H locs) {i : Nat} (hi : i < 30) : ∃ cell : Cell, H[ad (100 + i)]? = some cell ∧ cell.vm.isStatics = false ∧ s.vm.findClass "java/lang/String" = some cell.cls := by
  obtain ⟨cell, h1, h2, h3, -⟩ := (h.2.1 i hi).1.kept hS.2.1
  exact ⟨cell, h1, h2, h3⟩
theorem SV.fmt {ad : Nat → Nat} {A : Nat → Prop} {s : State} {H : Heap} (h : SV ad A s H) : ∃ v : Option Nat, va_Z "jdk/internal/util/Preconditions" "SIOOBE_FORMATTER" "Ljava/util/function/BiFunction;" (va_rf v) A s H := by
  rcases h.2.2.2.2 with q | ⟨t, q⟩
  · exact ⟨none, q⟩
  · exact ⟨some t, q⟩
theorem sv_lt (i : Nat) : sv_len.getD i 0 < 13 := by
  by_cases h : i < 30
  · exact (show ∀ i, i < 30 → sv_len.getD i 0 < 13 by decide) i h
  · show (sv_len[i]?).getD 0 < 13
    rw [List.getElem?_eq_none (Nat.le_trans (show sv_len.length ≤ 30 by decide) (by omega))]; decide
def EV (ad : Nat → Nat) (A : Nat → Prop) (U : State) (H : Heap) : Prop :=
  (∀ q ∈ nwF, va_Nw (.fieldLinkNest q.1 q.2.1 q.2.2.1 q.2.2.2.1 q.2.2.2.2.1 q.2.2.2.2.2) U) ∧ (∀ q ∈ nwM, va_Nw (.methodLinkNest q.1 q.2.1 q.2.2.1 q.2.2.2) U) ∧ (va_AO RX2 U ∧ va_AO RX4 U ∧ va_AO RX6 U ∧ va_AO RX7 U ∧ va_AO RX10 U) ∧ va_En "OffTheLead$Word" "LOffTheLead$Word;" wd_nm wd_F ad A U H ∧ va_Z "java/lang/String" "COMPACT_STRINGS" "Z" (.int 1) A U H ∧ SV ad A U H
theorem EV.call {ad : Nat → Nat} {A B : Nat → Prop} {s U : State} {H : Heap} {locs : List Loc} (h : EV ad A s s.heap) (hS : va_S A s.heap H locs) (hB : ∀ q, B q → A q) (hU : U.heap = H) (hW : s.WarmedH U.vm) : EV ad B U U.heap := by
  obtain ⟨h1, h2, ⟨a0, a1, a2, a3, a4⟩, h4, h5, h6⟩ := h
  rw [hU]
  exact ⟨fun q hq => va_Nw.warmF hW (h1 q hq), fun q hq => va_Nw.warmM hW (h2 q hq), ⟨va_AO.moved hW.alike a0, va_AO.moved hW.alike a1, va_AO.moved hW.alike a2, va_AO.moved hW.alike a3, va_AO.moved hW.alike a4⟩, va_En.moved hW.alike ((h4.kept hS.2.1).narrow hB), va_Z.moved hW.alike ((h5.kept hS.2.1).narrow hB), SV.call h6 hS hB hW⟩
theorem EV.blind {ad : Nat → Nat} {A : Nat → Prop} {U : State} {g : JFrame} {mk : MethodId} {a : Array Value} (h : EV ad A U U.heap) : EV ad A (U.calling g mk a) (U.calling g mk a).heap := by
  obtain ⟨h1, h2, ⟨a0, a1, a2, a3, a4⟩, h4, h5, h6⟩ := h
  have hv : U.vm.Alike (U.calling g mk a).vm := Vm.Alike.refl U.vm
  exact ⟨fun q hq => va_Nw.same rfl rfl (h1 q hq), fun q hq => va_Nw.same rfl rfl (h2 q hq), ⟨va_AO.moved hv a0, va_AO.moved hv a1, va_AO.moved hv a2, va_AO.moved hv a3, va_AO.moved hv a4⟩, va_En.moved hv h4, va_Z.moved hv h5, SV.blind h6⟩
theorem EV.word {ad : Nat → Nat} {A : Nat → Prop} {U : State} {H : Heap} (h : EV ad A U H) {i : Nat} (hi : i < wd_nm.length) : va_Z "OffTheLead$Word" (wd_nm.getD i "") "LOffTheLead$Word;" (.ref (ad i)) A U H := (h.2.2.2.1.1 i hi).1
theorem EV.compact {ad : Nat → Nat} {A : Nat → Prop} {U : State} {H : Heap} (h : EV ad A U H) : va_Z "java/lang/String" "COMPACT_STRINGS" "Z" (.int 1) A U H := h.2.2.2.2.1
theorem EV.sv {ad : Nat → Nat} {A : Nat → Prop} {U : State} {H : Heap} (h : EV ad A U H) : SV ad A U H := h.2.2.2.2.2
theorem EV.ne {ad : Nat → Nat} {A : Nat → Prop} {U : State} {H : Heap} (h : EV ad A U H) {i j : Nat} (hi : i < 26) (hj : j < 26) (hn : i ≠ j) : ¬ (some (ad i) : Option Nat) = some (ad j) := fun q => hn (h.2.2.2.1.2 i j hi hj (Option.some.inj q))
theorem EV.inj {ad : Nat → Nat} {A : Nat → Prop} {U : State} {H : Heap} (h : EV ad A U H) {i j : Nat} (hi : i < 26) (hj : j < 26) (q : (some (ad i) : Option Nat) = some (ad j)) : i = j := h.2.2.2.1.2 i j hi hj (Option.some.inj q)
theorem nf_X11_100 {ad : Nat → Nat} {A : Nat → Prop} {U : State} {H : Heap} (h : EV ad A U H) : va_Nw (.fieldLinkNest RX11 100 "OffTheLead$Tape" "size" "I" "OffTheLead") U := h.1 ("OffTheLead", 100, "OffTheLead$Tape", "size", "I", "OffTheLead") (List.mem_of_getElem? (i := 0) (by decide +kernel))
theorem nf_X0_34 {ad : Nat → Nat} {A : Nat → Prop} {U : State} {H : Heap} (h : EV ad A U H) : va_Nw (.fieldLinkNest RX0 34 "OffTheLead$Tape" "sort" "I" "OffTheLead") U := h.1 ("OffTheLead$Book", 34, "OffTheLead$Tape", "sort", "I", "OffTheLead") (List.mem_of_getElem? (i := 1) (by decide +kernel))
theorem nf_X5_24 {ad : Nat → Nat} {A : Nat → Prop} {U : State} {H : Heap} (h : EV ad A U H) : va_Nw (.fieldLinkNest RX5 24 "OffTheLead$Tape" "sort" "I" "OffTheLead") U := h.1 ("OffTheLead$ParkReader", 24, "OffTheLead$Tape", "sort", "I", "OffTheLead") (List.mem_of_getElem? (i := 2) (by decide +kernel))
theorem nf_X7_54 {ad : Nat → Nat} {A : Nat → Prop} {U : State} {H : Heap} (h : EV ad A U H) : va_Nw (.fieldLinkNest RX7 54 "OffTheLead$Tape" "sort" "I" "OffTheLead") U := h.1 ("OffTheLead$Sentence", 54, "OffTheLead$Tape", "sort", "I", "OffTheLead") (List.mem_of_getElem? (i := 3) (by decide +kernel))
theorem nf_X7_100 {ad : Nat → Nat} {A : Nat → Prop} {U : State} {H : Heap} (h : EV ad A U H) : va_Nw (.fieldLinkNest RX7 100 "OffTheLead$Tape" "value" "I" "OffTheLead") U := h.1 ("OffTheLead$Sentence", 100, "OffTheLead$Tape", "value", "I", "OffTheLead") (List.mem_of_getElem? (i := 4) (by decide +kernel))
theorem nf_X5_29 {ad : Nat → Nat} {A : Nat → Prop} {U : State} {H : Heap} (h : EV ad A U H) : va_Nw (.fieldLinkNest RX5 29 "OffTheLead$Tape" "word" "LOffTheLead$Word;" "OffTheLead") U := h.1 ("OffTheLead$ParkReader", 29, "OffTheLead$Tape", "word", "LOffTheLead$Word;", "OffTheLead") (List.mem_of_getElem? (i := 5) (by decide +kernel))
theorem nf_X0_50 {ad : Nat → Nat} {A : Nat → Prop} {U : State} {H : Heap} (h : EV ad A U H) : va_Nw (.fieldLinkNest RX0 50 "OffTheLead$Tape" "word" "LOffTheLead$Word;" "OffTheLead") U := h.1 ("OffTheLead$Book", 50, "OffTheLead$Tape", "word", "LOffTheLead$Word;", "OffTheLead") (List.mem_of_getElem? (i := 6) (by decide +kernel))
theorem nf_X7_35 {ad : Nat → Nat} {A : Nat → Prop} {U : State} {H : Heap} (h : EV ad A U H) : va_Nw (.fieldLinkNest RX7 35 "OffTheLead$Tape" "word" "LOffTheLead$Word;" "OffTheLead") U := h.1 ("OffTheLead$Sentence", 35, "OffTheLead$Tape", "word", "LOffTheLead$Word;", "OffTheLead") (List.mem_of_getElem? (i := 7) (by decide +kernel))
theorem nf_X0_57 {ad : Nat → Nat} {A : Nat → Prop} {U : State} {H : Heap} (h : EV ad A U H) : va_Nw (.fieldLinkNest RX0 57 "OffTheLead$Tape" "name" "J" "OffTheLead") U := h.1 ("OffTheLead$Book", 57, "OffTheLead$Tape", "name", "J", "OffTheLead") (List.mem_of_getElem? (i := 8) (by decide +kernel))
theorem nf_X5_101 {ad : Nat → Nat} {A : Nat → Prop} {U : State} {H : Heap} (h : EV ad A U H) : va_Nw (.fieldLinkNest RX5 101 "OffTheLead$Tape" "taken" "I" "OffTheLead") U := h.1 ("OffTheLead$ParkReader", 101, "OffTheLead$Tape", "taken", "I", "OffTheLead") (List.mem_of_getElem? (i := 9) (by decide +kernel))
theorem nf_X0_102 {ad : Nat → Nat} {A : Nat → Prop} {U : State} {H : Heap} (h : EV ad A U H) : va_Nw (.fieldLinkNest RX0 102 "OffTheLead$Tape" "taken" "I" "OffTheLead") U := h.1 ("OffTheLead$Book", 102, "OffTheLead$Tape", "taken", "I", "OffTheLead") (List.mem_of_getElem? (i := 10) (by decide +kernel))
theorem nf_X7_97 {ad : Nat → Nat} {A : Nat → Prop} {U : State} {H : Heap} (h : EV ad A U H) : va_Nw (.fieldLinkNest RX7 97 "OffTheLead$Tape" "taken" "I" "OffTheLead") U := h.1 ("OffTheLead$Sentence", 97, "OffTheLead$Tape", "taken", "I", "OffTheLead") (List.mem_of_getElem? (i := 11) (by decide +kernel))
theorem nf_X5_83 {ad : Nat → Nat} {A : Nat → Prop} {U : State} {H : Heap} (h : EV ad A U H) : va_Nw (.fieldLinkNest RX5 83 "OffTheLead$Tape" "takenName" "J" "OffTheLead") U := h.1 ("OffTheLead$ParkReader", 83, "OffTheLead$Tape", "takenName", "J", "OffTheLead") (List.mem_of_getElem? (i := 12) (by decide +kernel))
theorem nf_X5_121 {ad : Nat → Nat} {A : Nat → Prop} {U : State} {H : Heap} (h : EV ad A U H) : va_Nw (.fieldLinkNest RX5 121 "OffTheLead$Tape" "from" "I" "OffTheLead") U := h.1 ("OffTheLead$ParkReader", 121, "OffTheLead$Tape", "from", "I", "OffTheLead") (List.mem_of_getElem? (i := 13) (by decide +kernel))
theorem nf_X0_113 {ad : Nat → Nat} {A : Nat → Prop} {U : State} {H : Heap} (h : EV ad A U H) : va_Nw (.fieldLinkNest RX0 113 "OffTheLead$Tape" "from" "I" "OffTheLead") U := h.1 ("OffTheLead$Book", 113, "OffTheLead$Tape", "from", "I", "OffTheLead") (List.mem_of_getElem? (i := 14) (by decide +kernel))
theorem nf_X5_125 {ad : Nat → Nat} {A : Nat → Prop} {U : State} {H : Heap} (h : EV ad A U H) : va_Nw (.fieldLinkNest RX5 125 "OffTheLead$Tape" "to" "I" "OffTheLead") U := h.1 ("OffTheLead$ParkReader", 125, "OffTheLead$Tape", "to", "I", "OffTheLead") (List.mem_of_getElem? (i := 15) (by decide +kernel))
theorem nf_X0_116 {ad : Nat → Nat} {A : Nat → Prop} {U : State} {H : Heap} (h : EV ad A U H) : va_Nw (.fieldLinkNest RX0 116 "OffTheLead$Tape" "to" "I" "OffTheLead") U := h.1 ("OffTheLead$Book", 116, "OffTheLead$Tape", "to", "I", "OffTheLead") (List.mem_of_getElem? (i := 16) (by decide +kernel))
theorem nf_X11_380 {ad : Nat → Nat} {A : Nat → Prop} {U : State} {H : Heap} (h : EV ad A U H) : va_Nw (.fieldLinkNest RX11 380 "OffTheLead$Tape" "fault" "I" "OffTheLead") U := h.1 ("OffTheLead", 380, "OffTheLead$Tape", "fault", "I", "OffTheLead") (List.mem_of_getElem? (i := 17) (by decide +kernel))
theorem nf_X11_120 {ad : Nat → Nat} {A : Nat → Prop} {U : State} {H : Heap} (h : EV ad A U H) : va_Nw (.fieldLinkNest RX11 120 "OffTheLead$Tape" "faultAt" "I" "OffTheLead") U := h.1 ("OffTheLead", 120, "OffTheLead$Tape", "faultAt", "I", "OffTheLead") (List.mem_of_getElem? (i := 18) (by decide +kernel))
theorem nf_X4_66 {ad : Nat → Nat} {A : Nat → Prop} {U : State} {H : Heap} (h : EV ad A U H) : va_Nw (.fieldLinkNest RX4 66 "OffTheLead$Person" "name" "J" "OffTheLead") U := h.1 ("OffTheLead$Park", 66, "OffTheLead$Person", "name", "J", "OffTheLead") (List.mem_of_getElem? (i := 19) (by decide +kernel))
theorem nf_X9_25 {ad : Nat → Nat} {A : Nat → Prop} {U : State} {H : Heap} (h : EV ad A U H) : va_Nw (.fieldLinkNest RX9 25 "OffTheLead$Person" "place" "I" "OffTheLead") U := h.1 ("OffTheLead$Welfare", 25, "OffTheLead$Person", "place", "I", "OffTheLead") (List.mem_of_getElem? (i := 20) (by decide +kernel))
theorem nf_X5_116 {ad : Nat → Nat} {A : Nat → Prop} {U : State} {H : Heap} (h : EV ad A U H) : va_Nw (.fieldLinkNest RX5 116 "OffTheLead$Person" "place" "I" "OffTheLead") U := h.1 ("OffTheLead$ParkReader", 116, "OffTheLead$Person", "place", "I", "OffTheLead") (List.mem_of_getElem? (i := 21) (by decide +kernel))
theorem nf_X1_56 {ad : Nat → Nat} {A : Nat → Prop} {U : State} {H : Heap} (h : EV ad A U H) : va_Nw (.fieldLinkNest RX1 56 "OffTheLead$Person" "place" "I" "OffTheLead") U := h.1 ("OffTheLead$Days", 56, "OffTheLead$Person", "place", "I", "OffTheLead") (List.mem_of_getElem? (i := 22) (by decide +kernel))
theorem nf_X11_144 {ad : Nat → Nat} {A : Nat → Prop} {U : State} {H : Heap} (h : EV ad A U H) : va_Nw (.fieldLinkNest RX11 144 "OffTheLead$Person" "place" "I" "OffTheLead") U := h.1 ("OffTheLead", 144, "OffTheLead$Person", "place", "I", "OffTheLead") (List.mem_of_getElem? (i := 23) (by decide +kernel))
theorem nf_X7_141 {ad : Nat → Nat} {A : Nat → Prop} {U : State} {H : Heap} (h : EV ad A U H) : va_Nw (.fieldLinkNest RX7 141 "OffTheLead$Person" "place" "I" "OffTheLead") U := h.1 ("OffTheLead$Sentence", 141, "OffTheLead$Person", "place", "I", "OffTheLead") (List.mem_of_getElem? (i := 24) (by decide +kernel))
theorem nf_X4_97 {ad : Nat → Nat} {A : Nat → Prop} {U : State} {H : Heap} (h : EV ad A U H) : va_Nw (.fieldLinkNest RX4 97 "OffTheLead$Person" "place" "I" "OffTheLead") U := h.1 ("OffTheLead$Park", 97, "OffTheLead$Person", "place", "I", "OffTheLead") (List.mem_of_getElem? (i := 25) (by decide +kernel))
theorem nf_X5_124 {ad : Nat → Nat} {A : Nat → Prop} {U : State} {H : Heap} (h : EV ad A U H) : va_Nw (.fieldLinkNest RX5 124 "OffTheLead$Person" "from" "I" "OffTheLead") U := h.1 ("OffTheLead$ParkReader", 124, "OffTheLead$Person", "from", "I", "OffTheLead") (List.mem_of_getElem? (i := 26) (by decide +kernel))
theorem nf_X11_149 {ad : Nat → Nat} {A : Nat → Prop} {U : State} {H : Heap} (h : EV ad A U H) : va_Nw (.fieldLinkNest RX11 149 "OffTheLead$Person" "from" "I" "OffTheLead") U := h.1 ("OffTheLead", 149, "OffTheLead$Person", "from", "I", "OffTheLead") (List.mem_of_getElem? (i := 27) (by decide +kernel))
theorem nf_X4_100 {ad : Nat → Nat} {A : Nat → Prop} {U : State} {H : Heap} (h : EV ad A U H) : va_Nw (.fieldLinkNest RX4 100 "OffTheLead$Person" "from" "I" "OffTheLead") U := h.1 ("OffTheLead$Park", 100, "OffTheLead$Person", "from", "I", "OffTheLead") (List.mem_of_getElem? (i := 28) (by decide +kernel))
theorem nf_X5_128 {ad : Nat → Nat} {A : Nat → Prop} {U : State} {H : Heap} (h : EV ad A U H) : va_Nw (.fieldLinkNest RX5 128 "OffTheLead$Person" "to" "I" "OffTheLead") U := h.1 ("OffTheLead$ParkReader", 128, "OffTheLead$Person", "to", "I", "OffTheLead") (List.mem_of_getElem? (i := 29) (by decide +kernel))
theorem nf_X11_152 {ad : Nat → Nat} {A : Nat → Prop} {U : State} {H : Heap} (h : EV ad A U H) : va_Nw (.fieldLinkNest RX11 152 "OffTheLead$Person" "to" "I" "OffTheLead") U := h.1 ("OffTheLead", 152, "OffTheLead$Person", "to", "I", "OffTheLead") (List.mem_of_getElem? (i := 30) (by decide +kernel))
theorem nf_X4_103 {ad : Nat → Nat} {A : Nat → Prop} {U : State} {H : Heap} (h : EV ad A U H) : va_Nw (.fieldLinkNest RX4 103 "OffTheLead$Person" "to" "I" "OffTheLead") U := h.1 ("OffTheLead$Park", 103, "OffTheLead$Person", "to", "I", "OffTheLead") (List.mem_of_getElem? (i := 31) (by decide +kernel))
theorem nf_X1_39 {ad : Nat → Nat} {A : Nat → Prop} {U : State} {H : Heap} (h : EV ad A U H) : va_Nw (.fieldLinkNest RX1 39 "OffTheLead$Person" "fear" "I" "OffTheLead") U := h.1 ("OffTheLead$Days", 39, "OffTheLead$Person", "fear", "I", "OffTheLead") (List.mem_of_getElem? (i := 32) (by decide +kernel))
theorem nf_X5_129 {ad : Nat → Nat} {A : Nat → Prop} {U : State} {H : Heap} (h : EV ad A U H) : va_Nw (.fieldLinkNest RX5 129 "OffTheLead$Person" "fear" "I" "OffTheLead") U := h.1 ("OffTheLead$ParkReader", 129, "OffTheLead$Person", "fear", "I", "OffTheLead") (List.mem_of_getElem? (i := 33) (by decide +kernel))
theorem nf_X11_155 {ad : Nat → Nat} {A : Nat → Prop} {U : State} {H : Heap} (h : EV ad A U H) : va_Nw (.fieldLinkNest RX11 155 "OffTheLead$Person" "fear" "I" "OffTheLead") U := h.1 ("OffTheLead", 155, "OffTheLead$Person", "fear", "I", "OffTheLead") (List.mem_of_getElem? (i := 34) (by decide +kernel))
theorem nf_X9_30 {ad : Nat → Nat} {A : Nat → Prop} {U : State} {H : Heap} (h : EV ad A U H) : va_Nw (.fieldLinkNest RX9 30 "OffTheLead$Person" "away" "I" "OffTheLead") U := h.1 ("OffTheLead$Welfare", 30, "OffTheLead$Person", "away", "I", "OffTheLead") (List.mem_of_getElem? (i := 35) (by decide +kernel))
theorem nf_X1_44 {ad : Nat → Nat} {A : Nat → Prop} {U : State} {H : Heap} (h : EV ad A U H) : va_Nw (.fieldLinkNest RX1 44 "OffTheLead$Person" "away" "I" "OffTheLead") U := h.1 ("OffTheLead$Days", 44, "OffTheLead$Person", "away", "I", "OffTheLead") (List.mem_of_getElem? (i := 36) (by decide +kernel))
theorem nf_X4_70 {ad : Nat → Nat} {A : Nat → Prop} {U : State} {H : Heap} (h : EV ad A U H) : va_Nw (.fieldLinkNest RX4 70 "OffTheLead$Person" "away" "I" "OffTheLead") U := h.1 ("OffTheLead$Park", 70, "OffTheLead$Person", "away", "I", "OffTheLead") (List.mem_of_getElem? (i := 37) (by decide +kernel))
theorem nf_X11_158 {ad : Nat → Nat} {A : Nat → Prop} {U : State} {H : Heap} (h : EV ad A U H) : va_Nw (.fieldLinkNest RX11 158 "OffTheLead$Person" "away" "I" "OffTheLead") U := h.1 ("OffTheLead", 158, "OffTheLead$Person", "away", "I", "OffTheLead") (List.mem_of_getElem? (i := 38) (by decide +kernel))
theorem nf_X7_129 {ad : Nat → Nat} {A : Nat → Prop} {U : State} {H : Heap} (h : EV ad A U H) : va_Nw (.fieldLinkNest RX7 129 "OffTheLead$Person" "away" "I" "OffTheLead") U := h.1 ("OffTheLead$Sentence", 129, "OffTheLead$Person", "away", "I", "OffTheLead") (List.mem_of_getElem? (i := 39) (by decide +kernel))
theorem nf_X4_73 {ad : Nat → Nat} {A : Nat → Prop} {U : State} {H : Heap} (h : EV ad A U H) : va_Nw (.fieldLinkNest RX4 73 "OffTheLead$Person" "frights" "I" "OffTheLead") U := h.1 ("OffTheLead$Park", 73, "OffTheLead$Person", "frights", "I", "OffTheLead") (List.mem_of_getElem? (i := 40) (by decide +kernel))
theorem nf_X1_94 {ad : Nat → Nat} {A : Nat → Prop} {U : State} {H : Heap} (h : EV ad A U H) : va_Nw (.fieldLinkNest RX1 94 "OffTheLead$Person" "frights" "I" "OffTheLead") U := h.1 ("OffTheLead$Days", 94, "OffTheLead$Person", "frights", "I", "OffTheLead") (List.mem_of_getElem? (i := 41) (by decide +kernel))
theorem nf_X11_161 {ad : Nat → Nat} {A : Nat → Prop} {U : State} {H : Heap} (h : EV ad A U H) : va_Nw (.fieldLinkNest RX11 161 "OffTheLead$Person" "frights" "I" "OffTheLead") U := h.1 ("OffTheLead", 161, "OffTheLead$Person", "frights", "I", "OffTheLead") (List.mem_of_getElem? (i := 42) (by decide +kernel))
theorem nf_X7_144 {ad : Nat → Nat} {A : Nat → Prop} {U : State} {H : Heap} (h : EV ad A U H) : va_Nw (.fieldLinkNest RX7 144 "OffTheLead$Person" "frights" "I" "OffTheLead") U := h.1 ("OffTheLead$Sentence", 144, "OffTheLead$Person", "frights", "I", "OffTheLead") (List.mem_of_getElem? (i := 43) (by decide +kernel))
theorem nf_X4_76 {ad : Nat → Nat} {A : Nat → Prop} {U : State} {H : Heap} (h : EV ad A U H) : va_Nw (.fieldLinkNest RX4 76 "OffTheLead$Person" "bites" "I" "OffTheLead") U := h.1 ("OffTheLead$Park", 76, "OffTheLead$Person", "bites", "I", "OffTheLead") (List.mem_of_getElem? (i := 44) (by decide +kernel))
theorem nf_X1_104 {ad : Nat → Nat} {A : Nat → Prop} {U : State} {H : Heap} (h : EV ad A U H) : va_Nw (.fieldLinkNest RX1 104 "OffTheLead$Person" "bites" "I" "OffTheLead") U := h.1 ("OffTheLead$Days", 104, "OffTheLead$Person", "bites", "I", "OffTheLead") (List.mem_of_getElem? (i := 45) (by decide +kernel))
theorem nf_X11_164 {ad : Nat → Nat} {A : Nat → Prop} {U : State} {H : Heap} (h : EV ad A U H) : va_Nw (.fieldLinkNest RX11 164 "OffTheLead$Person" "bites" "I" "OffTheLead") U := h.1 ("OffTheLead", 164, "OffTheLead$Person", "bites", "I", "OffTheLead") (List.mem_of_getElem? (i := 46) (by decide +kernel))
theorem nf_X7_151 {ad : Nat → Nat} {A : Nat → Prop} {U : State} {H : Heap} (h : EV ad A U H) : va_Nw (.fieldLinkNest RX7 151 "OffTheLead$Person" "bites" "I" "OffTheLead") U := h.1 ("OffTheLead$Sentence", 151, "OffTheLead$Person", "bites", "I", "OffTheLead") (List.mem_of_getElem? (i := 47) (by decide +kernel))
theorem nf_X4_77 {ad : Nat → Nat} {A : Nat → Prop} {U : State} {H : Heap} (h : EV ad A U H) : va_Nw (.fieldLinkNest RX4 77 "OffTheLead$Person" "dogs" "I" "OffTheLead") U := h.1 ("OffTheLead$Park", 77, "OffTheLead$Person", "dogs", "I", "OffTheLead") (List.mem_of_getElem? (i := 48) (by decide +kernel))
theorem nf_X1_105 {ad : Nat → Nat} {A : Nat → Prop} {U : State} {H : Heap} (h : EV ad A U H) : va_Nw (.fieldLinkNest RX1 105 "OffTheLead$Person" "dogs" "I" "OffTheLead") U := h.1 ("OffTheLead$Days", 105, "OffTheLead$Person", "dogs", "I", "OffTheLead") (List.mem_of_getElem? (i := 49) (by decide +kernel))
theorem nf_X11_167 {ad : Nat → Nat} {A : Nat → Prop} {U : State} {H : Heap} (h : EV ad A U H) : va_Nw (.fieldLinkNest RX11 167 "OffTheLead$Person" "dogs" "I" "OffTheLead") U := h.1 ("OffTheLead", 167, "OffTheLead$Person", "dogs", "I", "OffTheLead") (List.mem_of_getElem? (i := 50) (by decide +kernel))
theorem nf_X9_100 {ad : Nat → Nat} {A : Nat → Prop} {U : State} {H : Heap} (h : EV ad A U H) : va_Nw (.fieldLinkNest RX9 100 "OffTheLead$Person" "dogs" "I" "OffTheLead") U := h.1 ("OffTheLead$Welfare", 100, "OffTheLead$Person", "dogs", "I", "OffTheLead") (List.mem_of_getElem? (i := 51) (by decide +kernel))
theorem nf_X7_134 {ad : Nat → Nat} {A : Nat → Prop} {U : State} {H : Heap} (h : EV ad A U H) : va_Nw (.fieldLinkNest RX7 134 "OffTheLead$Person" "dogs" "I" "OffTheLead") U := h.1 ("OffTheLead$Sentence", 134, "OffTheLead$Person", "dogs", "I", "OffTheLead") (List.mem_of_getElem? (i := 52) (by decide +kernel))
theorem nf_X4_79 {ad : Nat → Nat} {A : Nat → Prop} {U : State} {H : Heap} (h : EV ad A U H) : va_Nw (.fieldLinkNest RX4 79 "OffTheLead$Dog" "name" "J" "OffTheLead") U := h.1 ("OffTheLead$Park", 79, "OffTheLead$Dog", "name", "J", "OffTheLead") (List.mem_of_getElem? (i := 53) (by decide +kernel))
theorem nf_X1_51 {ad : Nat → Nat} {A : Nat → Prop} {U : State} {H : Heap} (h : EV ad A U H) : va_Nw (.fieldLinkNest RX1 51 "OffTheLead$Dog" "person" "I" "OffTheLead") U := h.1 ("OffTheLead$Days", 51, "OffTheLead$Dog", "person", "I", "OffTheLead") (List.mem_of_getElem? (i := 54) (by decide +kernel))
theorem nf_X4_80 {ad : Nat → Nat} {A : Nat → Prop} {U : State} {H : Heap} (h : EV ad A U H) : va_Nw (.fieldLinkNest RX4 80 "OffTheLead$Dog" "person" "I" "OffTheLead") U := h.1 ("OffTheLead$Park", 80, "OffTheLead$Dog", "person", "I", "OffTheLead") (List.mem_of_getElem? (i := 55) (by decide +kernel))
theorem nf_X11_180 {ad : Nat → Nat} {A : Nat → Prop} {U : State} {H : Heap} (h : EV ad A U H) : va_Nw (.fieldLinkNest RX11 180 "OffTheLead$Dog" "person" "I" "OffTheLead") U := h.1 ("OffTheLead", 180, "OffTheLead$Dog", "person", "I", "OffTheLead") (List.mem_of_getElem? (i := 56) (by decide +kernel))
theorem nf_X9_102 {ad : Nat → Nat} {A : Nat → Prop} {U : State} {H : Heap} (h : EV ad A U H) : va_Nw (.fieldLinkNest RX9 102 "OffTheLead$Dog" "person" "I" "OffTheLead") U := h.1 ("OffTheLead$Welfare", 102, "OffTheLead$Dog", "person", "I", "OffTheLead") (List.mem_of_getElem? (i := 57) (by decide +kernel))
theorem nf_X5_139 {ad : Nat → Nat} {A : Nat → Prop} {U : State} {H : Heap} (h : EV ad A U H) : va_Nw (.fieldLinkNest RX5 139 "OffTheLead$Dog" "obeys" "I" "OffTheLead") U := h.1 ("OffTheLead$ParkReader", 139, "OffTheLead$Dog", "obeys", "I", "OffTheLead") (List.mem_of_getElem? (i := 58) (by decide +kernel))
theorem nf_X1_85 {ad : Nat → Nat} {A : Nat → Prop} {U : State} {H : Heap} (h : EV ad A U H) : va_Nw (.fieldLinkNest RX1 85 "OffTheLead$Dog" "obeys" "I" "OffTheLead") U := h.1 ("OffTheLead$Days", 85, "OffTheLead$Dog", "obeys", "I", "OffTheLead") (List.mem_of_getElem? (i := 59) (by decide +kernel))
theorem nf_X11_185 {ad : Nat → Nat} {A : Nat → Prop} {U : State} {H : Heap} (h : EV ad A U H) : va_Nw (.fieldLinkNest RX11 185 "OffTheLead$Dog" "obeys" "I" "OffTheLead") U := h.1 ("OffTheLead", 185, "OffTheLead$Dog", "obeys", "I", "OffTheLead") (List.mem_of_getElem? (i := 60) (by decide +kernel))
theorem nf_X9_91 {ad : Nat → Nat} {A : Nat → Prop} {U : State} {H : Heap} (h : EV ad A U H) : va_Nw (.fieldLinkNest RX9 91 "OffTheLead$Dog" "obeys" "I" "OffTheLead") U := h.1 ("OffTheLead$Welfare", 91, "OffTheLead$Dog", "obeys", "I", "OffTheLead") (List.mem_of_getElem? (i := 61) (by decide +kernel))
theorem nf_X5_144 {ad : Nat → Nat} {A : Nat → Prop} {U : State} {H : Heap} (h : EV ad A U H) : va_Nw (.fieldLinkNest RX5 144 "OffTheLead$Dog" "bites" "I" "OffTheLead") U := h.1 ("OffTheLead$ParkReader", 144, "OffTheLead$Dog", "bites", "I", "OffTheLead") (List.mem_of_getElem? (i := 62) (by decide +kernel))
theorem nf_X1_97 {ad : Nat → Nat} {A : Nat → Prop} {U : State} {H : Heap} (h : EV ad A U H) : va_Nw (.fieldLinkNest RX1 97 "OffTheLead$Dog" "bites" "I" "OffTheLead") U := h.1 ("OffTheLead$Days", 97, "OffTheLead$Dog", "bites", "I", "OffTheLead") (List.mem_of_getElem? (i := 63) (by decide +kernel))
theorem nf_X11_188 {ad : Nat → Nat} {A : Nat → Prop} {U : State} {H : Heap} (h : EV ad A U H) : va_Nw (.fieldLinkNest RX11 188 "OffTheLead$Dog" "bites" "I" "OffTheLead") U := h.1 ("OffTheLead", 188, "OffTheLead$Dog", "bites", "I", "OffTheLead") (List.mem_of_getElem? (i := 64) (by decide +kernel))
theorem nf_X1_59 {ad : Nat → Nat} {A : Nat → Prop} {U : State} {H : Heap} (h : EV ad A U H) : va_Nw (.fieldLinkNest RX1 59 "OffTheLead$Dog" "held" "Z" "OffTheLead") U := h.1 ("OffTheLead$Days", 59, "OffTheLead$Dog", "held", "Z", "OffTheLead") (List.mem_of_getElem? (i := 65) (by decide +kernel))
theorem nf_X4_83 {ad : Nat → Nat} {A : Nat → Prop} {U : State} {H : Heap} (h : EV ad A U H) : va_Nw (.fieldLinkNest RX4 83 "OffTheLead$Dog" "held" "Z" "OffTheLead") U := h.1 ("OffTheLead$Park", 83, "OffTheLead$Dog", "held", "Z", "OffTheLead") (List.mem_of_getElem? (i := 66) (by decide +kernel))
theorem nf_X11_189 {ad : Nat → Nat} {A : Nat → Prop} {U : State} {H : Heap} (h : EV ad A U H) : va_Nw (.fieldLinkNest RX11 189 "OffTheLead$Dog" "held" "Z" "OffTheLead") U := h.1 ("OffTheLead", 189, "OffTheLead$Dog", "held", "Z", "OffTheLead") (List.mem_of_getElem? (i := 67) (by decide +kernel))
theorem nf_X9_105 {ad : Nat → Nat} {A : Nat → Prop} {U : State} {H : Heap} (h : EV ad A U H) : va_Nw (.fieldLinkNest RX9 105 "OffTheLead$Dog" "held" "Z" "OffTheLead") U := h.1 ("OffTheLead$Welfare", 105, "OffTheLead$Dog", "held", "Z", "OffTheLead") (List.mem_of_getElem? (i := 68) (by decide +kernel))
theorem nf_X1_88 {ad : Nat → Nat} {A : Nat → Prop} {U : State} {H : Heap} (h : EV ad A U H) : va_Nw (.fieldLinkNest RX1 88 "OffTheLead$Dog" "ran" "I" "OffTheLead") U := h.1 ("OffTheLead$Days", 88, "OffTheLead$Dog", "ran", "I", "OffTheLead") (List.mem_of_getElem? (i := 69) (by decide +kernel))
theorem nf_X4_87 {ad : Nat → Nat} {A : Nat → Prop} {U : State} {H : Heap} (h : EV ad A U H) : va_Nw (.fieldLinkNest RX4 87 "OffTheLead$Dog" "ran" "I" "OffTheLead") U := h.1 ("OffTheLead$Park", 87, "OffTheLead$Dog", "ran", "I", "OffTheLead") (List.mem_of_getElem? (i := 70) (by decide +kernel))
theorem nf_X11_193 {ad : Nat → Nat} {A : Nat → Prop} {U : State} {H : Heap} (h : EV ad A U H) : va_Nw (.fieldLinkNest RX11 193 "OffTheLead$Dog" "ran" "I" "OffTheLead") U := h.1 ("OffTheLead", 193, "OffTheLead$Dog", "ran", "I", "OffTheLead") (List.mem_of_getElem? (i := 71) (by decide +kernel))
theorem nf_X1_100 {ad : Nat → Nat} {A : Nat → Prop} {U : State} {H : Heap} (h : EV ad A U H) : va_Nw (.fieldLinkNest RX1 100 "OffTheLead$Dog" "bit" "I" "OffTheLead") U := h.1 ("OffTheLead$Days", 100, "OffTheLead$Dog", "bit", "I", "OffTheLead") (List.mem_of_getElem? (i := 72) (by decide +kernel))
theorem nf_X4_90 {ad : Nat → Nat} {A : Nat → Prop} {U : State} {H : Heap} (h : EV ad A U H) : va_Nw (.fieldLinkNest RX4 90 "OffTheLead$Dog" "bit" "I" "OffTheLead") U := h.1 ("OffTheLead$Park", 90, "OffTheLead$Dog", "bit", "I", "OffTheLead") (List.mem_of_getElem? (i := 73) (by decide +kernel))
theorem nf_X11_196 {ad : Nat → Nat} {A : Nat → Prop} {U : State} {H : Heap} (h : EV ad A U H) : va_Nw (.fieldLinkNest RX11 196 "OffTheLead$Dog" "bit" "I" "OffTheLead") U := h.1 ("OffTheLead", 196, "OffTheLead$Dog", "bit", "I", "OffTheLead") (List.mem_of_getElem? (i := 74) (by decide +kernel))
theorem nf_X11_329 {ad : Nat → Nat} {A : Nat → Prop} {U : State} {H : Heap} (h : EV ad A U H) : va_Nw (.fieldLinkNest RX11 329 "OffTheLead$Park" "placeNames" "[J" "OffTheLead") U := h.1 ("OffTheLead", 329, "OffTheLead$Park", "placeNames", "[J", "OffTheLead") (List.mem_of_getElem? (i := 75) (by decide +kernel))
theorem nf_X1_67 {ad : Nat → Nat} {A : Nat → Prop} {U : State} {H : Heap} (h : EV ad A U H) : va_Nw (.fieldLinkNest RX1 67 "OffTheLead$Park" "free" "[I" "OffTheLead") U := h.1 ("OffTheLead$Days", 67, "OffTheLead$Park", "free", "[I", "OffTheLead") (List.mem_of_getElem? (i := 76) (by decide +kernel))
theorem nf_X5_147 {ad : Nat → Nat} {A : Nat → Prop} {U : State} {H : Heap} (h : EV ad A U H) : va_Nw (.fieldLinkNest RX5 147 "OffTheLead$Park" "free" "[I" "OffTheLead") U := h.1 ("OffTheLead$ParkReader", 147, "OffTheLead$Park", "free", "[I", "OffTheLead") (List.mem_of_getElem? (i := 77) (by decide +kernel))
theorem nf_X9_80 {ad : Nat → Nat} {A : Nat → Prop} {U : State} {H : Heap} (h : EV ad A U H) : va_Nw (.fieldLinkNest RX9 80 "OffTheLead$Park" "free" "[I" "OffTheLead") U := h.1 ("OffTheLead$Welfare", 80, "OffTheLead$Park", "free", "[I", "OffTheLead") (List.mem_of_getElem? (i := 78) (by decide +kernel))
theorem nf_X11_202 {ad : Nat → Nat} {A : Nat → Prop} {U : State} {H : Heap} (h : EV ad A U H) : va_Nw (.fieldLinkNest RX11 202 "OffTheLead$Park" "free" "[I" "OffTheLead") U := h.1 ("OffTheLead", 202, "OffTheLead$Park", "free", "[I", "OffTheLead") (List.mem_of_getElem? (i := 79) (by decide +kernel))
theorem nf_X9_40 {ad : Nat → Nat} {A : Nat → Prop} {U : State} {H : Heap} (h : EV ad A U H) : va_Nw (.fieldLinkNest RX9 40 "OffTheLead$Park" "fenced" "[Z" "OffTheLead") U := h.1 ("OffTheLead$Welfare", 40, "OffTheLead$Park", "fenced", "[Z", "OffTheLead") (List.mem_of_getElem? (i := 80) (by decide +kernel))
theorem nf_X1_78 {ad : Nat → Nat} {A : Nat → Prop} {U : State} {H : Heap} (h : EV ad A U H) : va_Nw (.fieldLinkNest RX1 78 "OffTheLead$Park" "fenced" "[Z" "OffTheLead") U := h.1 ("OffTheLead$Days", 78, "OffTheLead$Park", "fenced", "[Z", "OffTheLead") (List.mem_of_getElem? (i := 81) (by decide +kernel))
theorem nf_X11_205 {ad : Nat → Nat} {A : Nat → Prop} {U : State} {H : Heap} (h : EV ad A U H) : va_Nw (.fieldLinkNest RX11 205 "OffTheLead$Park" "fenced" "[Z" "OffTheLead") U := h.1 ("OffTheLead", 205, "OffTheLead$Park", "fenced", "[Z", "OffTheLead") (List.mem_of_getElem? (i := 82) (by decide +kernel))
theorem nf_X9_21 {ad : Nat → Nat} {A : Nat → Prop} {U : State} {H : Heap} (h : EV ad A U H) : va_Nw (.fieldLinkNest RX9 21 "OffTheLead$Park" "persons" "[LOffTheLead$Person;" "OffTheLead") U := h.1 ("OffTheLead$Welfare", 21, "OffTheLead$Park", "persons", "[LOffTheLead$Person;", "OffTheLead") (List.mem_of_getElem? (i := 83) (by decide +kernel))
theorem nf_X1_35 {ad : Nat → Nat} {A : Nat → Prop} {U : State} {H : Heap} (h : EV ad A U H) : va_Nw (.fieldLinkNest RX1 35 "OffTheLead$Park" "persons" "[LOffTheLead$Person;" "OffTheLead") U := h.1 ("OffTheLead$Days", 35, "OffTheLead$Park", "persons", "[LOffTheLead$Person;", "OffTheLead") (List.mem_of_getElem? (i := 84) (by decide +kernel))
theorem nf_X11_140 {ad : Nat → Nat} {A : Nat → Prop} {U : State} {H : Heap} (h : EV ad A U H) : va_Nw (.fieldLinkNest RX11 140 "OffTheLead$Park" "persons" "[LOffTheLead$Person;" "OffTheLead") U := h.1 ("OffTheLead", 140, "OffTheLead$Park", "persons", "[LOffTheLead$Person;", "OffTheLead") (List.mem_of_getElem? (i := 85) (by decide +kernel))
theorem nf_X7_123 {ad : Nat → Nat} {A : Nat → Prop} {U : State} {H : Heap} (h : EV ad A U H) : va_Nw (.fieldLinkNest RX7 123 "OffTheLead$Park" "persons" "[LOffTheLead$Person;" "OffTheLead") U := h.1 ("OffTheLead$Sentence", 123, "OffTheLead$Park", "persons", "[LOffTheLead$Person;", "OffTheLead") (List.mem_of_getElem? (i := 86) (by decide +kernel))
theorem nf_X1_47 {ad : Nat → Nat} {A : Nat → Prop} {U : State} {H : Heap} (h : EV ad A U H) : va_Nw (.fieldLinkNest RX1 47 "OffTheLead$Park" "dogs" "[LOffTheLead$Dog;" "OffTheLead") U := h.1 ("OffTheLead$Days", 47, "OffTheLead$Park", "dogs", "[LOffTheLead$Dog;", "OffTheLead") (List.mem_of_getElem? (i := 87) (by decide +kernel))
theorem nf_X11_177 {ad : Nat → Nat} {A : Nat → Prop} {U : State} {H : Heap} (h : EV ad A U H) : va_Nw (.fieldLinkNest RX11 177 "OffTheLead$Park" "dogs" "[LOffTheLead$Dog;" "OffTheLead") U := h.1 ("OffTheLead", 177, "OffTheLead$Park", "dogs", "[LOffTheLead$Dog;", "OffTheLead") (List.mem_of_getElem? (i := 88) (by decide +kernel))
theorem nf_X9_87 {ad : Nat → Nat} {A : Nat → Prop} {U : State} {H : Heap} (h : EV ad A U H) : va_Nw (.fieldLinkNest RX9 87 "OffTheLead$Park" "dogs" "[LOffTheLead$Dog;" "OffTheLead") U := h.1 ("OffTheLead$Welfare", 87, "OffTheLead$Park", "dogs", "[LOffTheLead$Dog;", "OffTheLead") (List.mem_of_getElem? (i := 89) (by decide +kernel))
theorem nf_X5_70 {ad : Nat → Nat} {A : Nat → Prop} {U : State} {H : Heap} (h : EV ad A U H) : va_Nw (.fieldLinkNest RX5 70 "OffTheLead$Park" "placeCount" "I" "OffTheLead") U := h.1 ("OffTheLead$ParkReader", 70, "OffTheLead$Park", "placeCount", "I", "OffTheLead") (List.mem_of_getElem? (i := 90) (by decide +kernel))
theorem nf_X9_37 {ad : Nat → Nat} {A : Nat → Prop} {U : State} {H : Heap} (h : EV ad A U H) : va_Nw (.fieldLinkNest RX9 37 "OffTheLead$Park" "placeCount" "I" "OffTheLead") U := h.1 ("OffTheLead$Welfare", 37, "OffTheLead$Park", "placeCount", "I", "OffTheLead") (List.mem_of_getElem? (i := 91) (by decide +kernel))
theorem nf_X11_374 {ad : Nat → Nat} {A : Nat → Prop} {U : State} {H : Heap} (h : EV ad A U H) : va_Nw (.fieldLinkNest RX11 374 "OffTheLead$Park" "placeCount" "I" "OffTheLead") U := h.1 ("OffTheLead", 374, "OffTheLead$Park", "placeCount", "I", "OffTheLead") (List.mem_of_getElem? (i := 92) (by decide +kernel))
theorem nf_X9_17 {ad : Nat → Nat} {A : Nat → Prop} {U : State} {H : Heap} (h : EV ad A U H) : va_Nw (.fieldLinkNest RX9 17 "OffTheLead$Park" "personCount" "I" "OffTheLead") U := h.1 ("OffTheLead$Welfare", 17, "OffTheLead$Park", "personCount", "I", "OffTheLead") (List.mem_of_getElem? (i := 93) (by decide +kernel))
theorem nf_X5_94 {ad : Nat → Nat} {A : Nat → Prop} {U : State} {H : Heap} (h : EV ad A U H) : va_Nw (.fieldLinkNest RX5 94 "OffTheLead$Park" "personCount" "I" "OffTheLead") U := h.1 ("OffTheLead$ParkReader", 94, "OffTheLead$Park", "personCount", "I", "OffTheLead") (List.mem_of_getElem? (i := 94) (by decide +kernel))
theorem nf_X1_32 {ad : Nat → Nat} {A : Nat → Prop} {U : State} {H : Heap} (h : EV ad A U H) : va_Nw (.fieldLinkNest RX1 32 "OffTheLead$Park" "personCount" "I" "OffTheLead") U := h.1 ("OffTheLead$Days", 32, "OffTheLead$Park", "personCount", "I", "OffTheLead") (List.mem_of_getElem? (i := 95) (by decide +kernel))
theorem nf_X11_367 {ad : Nat → Nat} {A : Nat → Prop} {U : State} {H : Heap} (h : EV ad A U H) : va_Nw (.fieldLinkNest RX11 367 "OffTheLead$Park" "personCount" "I" "OffTheLead") U := h.1 ("OffTheLead", 367, "OffTheLead$Park", "personCount", "I", "OffTheLead") (List.mem_of_getElem? (i := 96) (by decide +kernel))
theorem nf_X1_25 {ad : Nat → Nat} {A : Nat → Prop} {U : State} {H : Heap} (h : EV ad A U H) : va_Nw (.fieldLinkNest RX1 25 "OffTheLead$Park" "dogCount" "I" "OffTheLead") U := h.1 ("OffTheLead$Days", 25, "OffTheLead$Park", "dogCount", "I", "OffTheLead") (List.mem_of_getElem? (i := 97) (by decide +kernel))
theorem nf_X5_132 {ad : Nat → Nat} {A : Nat → Prop} {U : State} {H : Heap} (h : EV ad A U H) : va_Nw (.fieldLinkNest RX5 132 "OffTheLead$Park" "dogCount" "I" "OffTheLead") U := h.1 ("OffTheLead$ParkReader", 132, "OffTheLead$Park", "dogCount", "I", "OffTheLead") (List.mem_of_getElem? (i := 98) (by decide +kernel))
theorem nf_X9_62 {ad : Nat → Nat} {A : Nat → Prop} {U : State} {H : Heap} (h : EV ad A U H) : va_Nw (.fieldLinkNest RX9 62 "OffTheLead$Park" "dogCount" "I" "OffTheLead") U := h.1 ("OffTheLead$Welfare", 62, "OffTheLead$Park", "dogCount", "I", "OffTheLead") (List.mem_of_getElem? (i := 99) (by decide +kernel))
theorem nf_X11_377 {ad : Nat → Nat} {A : Nat → Prop} {U : State} {H : Heap} (h : EV ad A U H) : va_Nw (.fieldLinkNest RX11 377 "OffTheLead$Park" "dogCount" "I" "OffTheLead") U := h.1 ("OffTheLead", 377, "OffTheLead$Park", "dogCount", "I", "OffTheLead") (List.mem_of_getElem? (i := 100) (by decide +kernel))
theorem nf_X1_75 {ad : Nat → Nat} {A : Nat → Prop} {U : State} {H : Heap} (h : EV ad A U H) : va_Nw (.fieldLinkNest RX1 75 "OffTheLead$Park" "sign" "I" "OffTheLead") U := h.1 ("OffTheLead$Days", 75, "OffTheLead$Park", "sign", "I", "OffTheLead") (List.mem_of_getElem? (i := 101) (by decide +kernel))
theorem nf_X5_155 {ad : Nat → Nat} {A : Nat → Prop} {U : State} {H : Heap} (h : EV ad A U H) : va_Nw (.fieldLinkNest RX5 155 "OffTheLead$Park" "sign" "I" "OffTheLead") U := h.1 ("OffTheLead$ParkReader", 155, "OffTheLead$Park", "sign", "I", "OffTheLead") (List.mem_of_getElem? (i := 102) (by decide +kernel))
theorem nf_X9_84 {ad : Nat → Nat} {A : Nat → Prop} {U : State} {H : Heap} (h : EV ad A U H) : va_Nw (.fieldLinkNest RX9 84 "OffTheLead$Park" "sign" "I" "OffTheLead") U := h.1 ("OffTheLead$Welfare", 84, "OffTheLead$Park", "sign", "I", "OffTheLead") (List.mem_of_getElem? (i := 103) (by decide +kernel))
theorem nf_X11_219 {ad : Nat → Nat} {A : Nat → Prop} {U : State} {H : Heap} (h : EV ad A U H) : va_Nw (.fieldLinkNest RX11 219 "OffTheLead$Park" "sign" "I" "OffTheLead") U := h.1 ("OffTheLead", 219, "OffTheLead$Park", "sign", "I", "OffTheLead") (List.mem_of_getElem? (i := 104) (by decide +kernel))
theorem nf_X1_15 {ad : Nat → Nat} {A : Nat → Prop} {U : State} {H : Heap} (h : EV ad A U H) : va_Nw (.fieldLinkNest RX1 15 "OffTheLead$Park" "day" "I" "OffTheLead") U := h.1 ("OffTheLead$Days", 15, "OffTheLead$Park", "day", "I", "OffTheLead") (List.mem_of_getElem? (i := 105) (by decide +kernel))
theorem nf_X0_160 {ad : Nat → Nat} {A : Nat → Prop} {U : State} {H : Heap} (h : EV ad A U H) : va_Nw (.fieldLinkNest RX0 160 "OffTheLead$Park" "day" "I" "OffTheLead") U := h.1 ("OffTheLead$Book", 160, "OffTheLead$Park", "day", "I", "OffTheLead") (List.mem_of_getElem? (i := 106) (by decide +kernel))
theorem nf_X11_212 {ad : Nat → Nat} {A : Nat → Prop} {U : State} {H : Heap} (h : EV ad A U H) : va_Nw (.fieldLinkNest RX11 212 "OffTheLead$Park" "day" "I" "OffTheLead") U := h.1 ("OffTheLead", 212, "OffTheLead$Park", "day", "I", "OffTheLead") (List.mem_of_getElem? (i := 107) (by decide +kernel))
theorem nf_X1_91 {ad : Nat → Nat} {A : Nat → Prop} {U : State} {H : Heap} (h : EV ad A U H) : va_Nw (.fieldLinkNest RX1 91 "OffTheLead$Park" "complaints" "I" "OffTheLead") U := h.1 ("OffTheLead$Days", 91, "OffTheLead$Park", "complaints", "I", "OffTheLead") (List.mem_of_getElem? (i := 108) (by decide +kernel))
theorem nf_X11_222 {ad : Nat → Nat} {A : Nat → Prop} {U : State} {H : Heap} (h : EV ad A U H) : va_Nw (.fieldLinkNest RX11 222 "OffTheLead$Park" "complaints" "I" "OffTheLead") U := h.1 ("OffTheLead", 222, "OffTheLead$Park", "complaints", "I", "OffTheLead") (List.mem_of_getElem? (i := 109) (by decide +kernel))
theorem nf_X1_103 {ad : Nat → Nat} {A : Nat → Prop} {U : State} {H : Heap} (h : EV ad A U H) : va_Nw (.fieldLinkNest RX1 103 "OffTheLead$Park" "bites" "I" "OffTheLead") U := h.1 ("OffTheLead$Days", 103, "OffTheLead$Park", "bites", "I", "OffTheLead") (List.mem_of_getElem? (i := 110) (by decide +kernel))
theorem nf_X11_225 {ad : Nat → Nat} {A : Nat → Prop} {U : State} {H : Heap} (h : EV ad A U H) : va_Nw (.fieldLinkNest RX11 225 "OffTheLead$Park" "bites" "I" "OffTheLead") U := h.1 ("OffTheLead", 225, "OffTheLead$Park", "bites", "I", "OffTheLead") (List.mem_of_getElem? (i := 111) (by decide +kernel))
theorem nf_X11_354 {ad : Nat → Nat} {A : Nat → Prop} {U : State} {H : Heap} (h : EV ad A U H) : va_Nw (.fieldLinkNest RX11 354 "OffTheLead$Book" "why" "I" "OffTheLead") U := h.1 ("OffTheLead", 354, "OffTheLead$Book", "why", "I", "OffTheLead") (List.mem_of_getElem? (i := 112) (by decide +kernel))
theorem nf_X11_364 {ad : Nat → Nat} {A : Nat → Prop} {U : State} {H : Heap} (h : EV ad A U H) : va_Nw (.fieldLinkNest RX11 364 "OffTheLead$Sentence" "ones" "I" "OffTheLead") U := h.1 ("OffTheLead", 364, "OffTheLead$Sentence", "ones", "I", "OffTheLead") (List.mem_of_getElem? (i := 113) (by decide +kernel))
theorem nf_X11_275 {ad : Nat → Nat} {A : Nat → Prop} {U : State} {H : Heap} (h : EV ad A U H) : va_Nw (.fieldLinkNest RX11 275 "OffTheLead$History" "size" "I" "OffTheLead") U := h.1 ("OffTheLead", 275, "OffTheLead$History", "size", "I", "OffTheLead") (List.mem_of_getElem? (i := 114) (by decide +kernel))
theorem nm_X11_9 {ad : Nat → Nat} {A : Nat → Prop} {U : State} {H : Heap} (h : EV ad A U H) : va_Nw (.methodLinkNest RX11 9 yX8_init "OffTheLead") U := h.2.1 ("OffTheLead", 9, yX8_init, "OffTheLead") (List.mem_of_getElem? (i := 0) (by decide +kernel))
theorem nm_X4_35 {ad : Nat → Nat} {A : Nat → Prop} {U : State} {H : Heap} (h : EV ad A U H) : va_Nw (.methodLinkNest RX4 35 yX6_init "OffTheLead") U := h.2.1 ("OffTheLead$Park", 35, yX6_init, "OffTheLead") (List.mem_of_getElem? (i := 1) (by decide +kernel))
theorem nm_X4_36 {ad : Nat → Nat} {A : Nat → Prop} {U : State} {H : Heap} (h : EV ad A U H) : va_Nw (.methodLinkNest RX4 36 yX2_init "OffTheLead") U := h.2.1 ("OffTheLead$Park", 36, yX2_init, "OffTheLead") (List.mem_of_getElem? (i := 2) (by decide +kernel))
theorem nm_X11_28 {ad : Nat → Nat} {A : Nat → Prop} {U : State} {H : Heap} (h : EV ad A U H) : va_Nw (.methodLinkNest RX11 28 yX5_init "OffTheLead") U := h.2.1 ("OffTheLead", 28, yX5_init, "OffTheLead") (List.mem_of_getElem? (i := 3) (by decide +kernel))
theorem nm_X11_35 {ad : Nat → Nat} {A : Nat → Prop} {U : State} {H : Heap} (h : EV ad A U H) : va_Nw (.methodLinkNest RX11 35 yX0_init "OffTheLead") U := h.2.1 ("OffTheLead", 35, yX0_init, "OffTheLead") (List.mem_of_getElem? (i := 4) (by decide +kernel))
theorem nm_X11_42 {ad : Nat → Nat} {A : Nat → Prop} {U : State} {H : Heap} (h : EV ad A U H) : va_Nw (.methodLinkNest RX11 42 yX7_init "OffTheLead") U := h.2.1 ("OffTheLead", 42, yX7_init, "OffTheLead") (List.mem_of_getElem? (i := 5) (by decide +kernel))
theorem nm_X11_52 {ad : Nat → Nat} {A : Nat → Prop} {U : State} {H : Heap} (h : EV ad A U H) : va_Nw (.methodLinkNest RX11 52 yX1_init "OffTheLead") U := h.2.1 ("OffTheLead", 52, yX1_init, "OffTheLead") (List.mem_of_getElem? (i := 6) (by decide +kernel))
theorem nm_X5_151 {ad : Nat → Nat} {A : Nat → Prop} {U : State} {H : Heap} (h : EV ad A U H) : va_Nw (.methodLinkNest RX5 151 yX11_hoursOf "OffTheLead") U := h.2.1 ("OffTheLead$ParkReader", 151, yX11_hoursOf, "OffTheLead") (List.mem_of_getElem? (i := 7) (by decide +kernel))
theorem nm_X6_38 {ad : Nat → Nat} {A : Nat → Prop} {U : State} {H : Heap} (h : EV ad A U H) : va_Nw (.methodLinkNest RX6 38 yX11_hoursOf "OffTheLead") U := h.2.1 ("OffTheLead$Person", 38, yX11_hoursOf, "OffTheLead") (List.mem_of_getElem? (i := 8) (by decide +kernel))
theorem nm_X4_93 {ad : Nat → Nat} {A : Nat → Prop} {U : State} {H : Heap} (h : EV ad A U H) : va_Nw (.methodLinkNest RX4 93 yX11_hoursOf "OffTheLead") U := h.2.1 ("OffTheLead$Park", 93, yX11_hoursOf, "OffTheLead") (List.mem_of_getElem? (i := 9) (by decide +kernel))
theorem nm_X11_357 {ad : Nat → Nat} {A : Nat → Prop} {U : State} {H : Heap} (h : EV ad A U H) : va_Nw (.methodLinkNest RX11 357 yX7_readCond "OffTheLead") U := h.2.1 ("OffTheLead", 357, yX7_readCond, "OffTheLead") (List.mem_of_getElem? (i := 10) (by decide +kernel))
abbrev EP : Type := (Nat → Prop) → State → Heap → Prop
def EC (ad : Nat → Nat) (E : EP) : Prop := (∀ (A : Nat → Prop) (U : State) (H : Heap), E A U H → EV ad A U H) ∧ (∀ (A B : Nat → Prop) (s U : State) (H : Heap) (locs : List Loc), E A s s.heap → va_S A s.heap H locs → (∀ q, B q → A q) → U.heap = H → s.WarmedH U.vm → E B U U.heap) ∧ ∀ (A : Nat → Prop) (U : State) (g : JFrame) (mk : MethodId) (a : Array Value), E A U U.heap → E A (U.calling g mk a) (U.calling g mk a).heap
abbrev XT : Type := (Nat → Nat → Int32) × (Nat → Nat → Int64) × (Nat → XR)
def xPre (E : EP) (dC : Nat → ClassId) (dI : Nat → Nat → Nat) (A : Nat → Nat) (C : Nat → ClassId) (nb sz : Nat) (st : Nat → Nat → Int32) (sl : Nat → Nat → Int64) (so : Nat → XR) (U : State) : Prop := U.heap.size = sz ∧ va_P (dC, dI) vwCl (xw A C nb st sl so) U.heap ∧ va_K (dC, dI) vwCl (xt C) U ∧ E (XA A sz) U U.heap
theorem xPre.blind {ad : Nat → Nat} {E : EP} (hEE : EC ad E) {dC : Nat → ClassId} {dI : Nat → Nat → Nat} {A : Nat → Nat} {C : Nat → ClassId} {nb sz : Nat} {st : Nat → Nat → Int32} {sl : Nat → Nat → Int64} {so : Nat → XR} {U : State} {g : JFrame} {mk : MethodId} {a : Array Value} (q : xPre E dC dI A C nb sz st sl so U) : xPre E dC dI A C nb sz st sl so (U.calling g mk a) :=
  ⟨q.1, q.2.1, va_K.moved (u := U) (U := U.calling g mk a) (Vm.Alike.refl U.vm) q.2.2.1, hEE.2.2 _ _ _ _ _ q.2.2.2⟩
theorem xPre.of {ad : Nat → Nat} {E : EP} (hEE : EC ad E) {dC : Nat → ClassId} {dI : Nat → Nat → Nat} {A : Nat → Nat} {C : Nat → ClassId} {nb : Nat} {st : Nat → Nat → Int32} {sl : Nat → Nat → Int64} {so : Nat → XR} {s U : State} {H : Heap} {locs : List Loc} (hP : va_P (dC, dI) vwCl (xw A C nb st sl so) H) (hK : va_K (dC, dI) vwCl (xt C) s) (hE : E (XA A s.heap.size) s s.heap) (hS : va_S (XA A s.heap.size) s.heap H locs) (hU : U.heap = H) (hW : s.WarmedH U.vm) : xPre E dC dI A C nb H.size st sl so U :=
  ⟨by rw [hU], by rw [hU]; exact hP, va_K.moved hW.alike hK, hEE.2.1 _ _ _ _ _ _ hE hS (XA.le hS.1) hU hW⟩
def xB (dC : Nat → ClassId) (dI : Nat → Nat → Nat) (A : Nat → Nat) (C : Nat → ClassId) (nb : Nat) (x : XT) (t : State) : Prop := va_P (dC, dI) vwCl (xw A C nb x.1 x.2.1 x.2.2) t.heap
theorem xB.at {dC : Nat → ClassId} {dI : Nat → Nat → Nat} {A : Nat → Nat} {C : Nat → ClassId} {nb : Nat} {x : XT} {t : State} {H : Heap} (ht : t.heap = H) (h : xB dC dI A C nb x t) : va_P (dC, dI) vwCl (xw A C nb x.1 x.2.1 x.2.2) H := by rw [← ht]; exact h
theorem xB.of {dC : Nat → ClassId} {dI : Nat → Nat → Nat} {A : Nat → Nat} {C : Nat → ClassId} {nb : Nat} {st : Nat → Nat → Int32} {sl : Nat → Nat → Int64} {so : Nat → XR} {t : State} {H : Heap} (ht : t.heap = H) (h : va_P (dC, dI) vwCl (xw A C nb st sl so) H) : xB dC dI A C nb (st, sl, so) t := by unfold xB; rw [ht]; exact h
