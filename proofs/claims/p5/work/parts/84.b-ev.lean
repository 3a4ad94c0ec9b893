def gvl : List Cond := flatC (Jvm.Cond.and given_1 narrow_1)
def fNF (q : String × Nat × String × String × String × String) : Cond := .fieldLinkNest q.1 q.2.1 q.2.2.1 q.2.2.2.1 q.2.2.2.2.1 q.2.2.2.2.2
def fNM (q : String × Nat × MethodName × String) : Cond := .methodLinkNest q.1 q.2.1 q.2.2.1 q.2.2.2
theorem nwF_in : ∀ q ∈ nwF, fNF q ∈ lw_tbl := by
  have h : nwF.map fNF = ([144, 148, 149, 150, 154, 156, 157, 158, 159, 161, 162, 163, 165, 167, 168, 170, 171, 174, 176, 225, 227, 228, 229, 230, 231, 232, 234, 235, 236, 238, 239, 240, 242, 243, 244, 246, 247, 248, 249, 250, 252, 253, 254, 255, 257, 258, 259, 260, 262, 263, 264, 265, 266, 295, 297, 298, 299, 300, 302, 303, 304, 305, 307, 308, 309, 311, 312, 313, 314, 316, 317, 318, 320, 321, 322, 339, 341, 342, 343, 344, 346, 347, 348, 350, 351, 352, 353, 355, 356, 357, 359, 360, 361, 363, 364, 365, 366, 368, 369, 370, 371, 373, 374, 375, 376, 377, 379, 380, 382, 383, 385, 386, 440, 468, 502] : List Nat).filterMap (fun i => lw_tbl[i]?) := by decide +kernel
  intro q hq
  have h1 : fNF q ∈ nwF.map fNF := List.mem_map.mpr ⟨q, hq, rfl⟩
  rw [h] at h1
  obtain ⟨i, -, hi⟩ := List.mem_filterMap.mp h1
  exact List.mem_of_getElem? hi
theorem nwM_in : ∀ q ∈ nwM, fNM q ∈ lw_tbl := by
  have h : nwM.map fNM = ([137, 220, 290, 414, 427, 458, 482, 773, 846, 877, 1345] : List Nat).filterMap (fun i => lw_tbl[i]?) := by decide +kernel
  intro q hq
  have h1 : fNM q ∈ nwM.map fNM := List.mem_map.mpr ⟨q, hq, rfl⟩
  rw [h] at h1
  obtain ⟨i, -, hi⟩ := List.mem_filterMap.mp h1
  exact List.mem_of_getElem? hi
theorem gv_in {ws : List Cond} {ps : List Nat} (h : ws = ps.filterMap (fun i => gvl[i]?)) : ∀ w ∈ ws, w ∈ gvl := fun w hw => by
  rw [h] at hw
  obtain ⟨i, -, hi⟩ := List.mem_filterMap.mp hw
  exact List.mem_of_getElem? hi
def sK : List (String × Nat) := [("OffTheLead$Word", 119), ("OffTheLead$Word", 125), ("OffTheLead$Word", 128), ("OffTheLead$Word", 131), ("OffTheLead$Word", 134), ("OffTheLead$Word", 137), ("OffTheLead$Word", 140), ("OffTheLead$Word", 143), ("OffTheLead$Word", 146), ("OffTheLead$Word", 149), ("OffTheLead$Word", 152), ("OffTheLead$Word", 155), ("OffTheLead$Word", 158), ("OffTheLead$Word", 161), ("OffTheLead$Word", 164), ("OffTheLead$Word", 167), ("OffTheLead$Word", 170), ("OffTheLead$Word", 173), ("OffTheLead$Word", 176), ("OffTheLead$Word", 179), ("OffTheLead$Word", 182), ("OffTheLead$Word", 185), ("OffTheLead$Word", 188), ("OffTheLead$Word", 191), ("OffTheLead$Word", 194), ("OffTheLead$Word", 194), ("OffTheLead", 386), ("OffTheLead", 391), ("OffTheLead", 396), ("OffTheLead", 398)]
def sTm (i : Nat) : Term := .string (sK.getD i ("", 0)).1 (sK.getD i ("", 0)).2
def sVt (i : Nat) : Term := .field (sTm i) "java/lang/String" "value" "[B"
def sAt (i : Nat) : List Cond := .exactly (sTm i) "java/lang/String" :: .eq (.field (sTm i) "java/lang/String" "coder" "B") (.int 0) :: .arrayOf (sVt i) .byte :: .eq (.length (sVt i)) (.int (Int32.ofNat (sv_len.getD i 0))) :: (List.range (sv_len.getD i 0)).map (fun j => .eq (.elem (sVt i) (.int (Int32.ofNat j))) (.int ((sv_byt.getD i []).getD j 0)))
def sPos : List (List Nat) := [[465, 466, 467, 468, 469, 470, 471, 472, 473], [474, 475, 476, 477, 478, 479, 480, 481, 482, 483], [484, 485, 486, 487, 488, 489, 490, 491, 492, 493], [494, 495, 496, 497, 498, 499, 500], [501, 502, 503, 504, 505, 506, 507, 508], [509, 510, 511, 512, 513, 514, 515, 516], [517, 518, 519, 520, 521, 522, 523, 524, 525], [526, 527, 528, 529, 530, 531, 532, 533, 534, 535], [536, 537, 538, 539, 540, 541, 542, 543, 544], [552, 553, 554, 555, 556, 557, 558, 559], [560, 561, 562, 563, 564, 565, 566, 567, 568], [569, 570, 571, 572, 573, 574, 575, 576, 577], [545, 546, 547, 548, 549, 550, 551], [662, 663, 664, 665, 666, 667], [655, 656, 657, 658, 659, 660, 661], [578, 579, 580, 581, 582, 583, 584], [585, 586, 587, 588, 589, 590, 591, 592], [593, 594, 595, 596, 597, 598, 599, 600, 601], [602, 603, 604, 605, 606, 607, 608, 609, 610], [611, 612, 613, 614, 615, 616], [617, 618, 619, 620, 621, 622, 623, 624, 625, 626, 627], [628, 629, 630, 631, 632, 633, 634, 635, 636], [637, 638, 639, 640, 641, 642, 643, 644], [645, 646, 647, 648, 649, 650, 651, 652, 653, 654], [461, 462, 463, 464], [461, 462, 463, 464], [414, 415, 416, 417, 418, 419, 420, 421, 422, 423, 424, 425, 426, 427, 428, 429], [430, 431, 432, 433, 434, 435, 436, 437, 438, 439], [440, 441, 442, 443, 444, 445, 446, 447], [448, 449, 450, 451, 452, 453, 454, 455, 456, 457, 458, 459, 460]]
theorem sAt_eq : ∀ i, i < 30 → sAt i = (sPos.getD i []).filterMap (fun k => gvl[k]?) := by decide +kernel
theorem sAt_in {i : Nat} (hi : i < 30) : ∀ w ∈ sAt i, w ∈ gvl := gv_in (sAt_eq i hi)
def dTm (n : String) : Term := .static "java/lang/Integer" n "[B"
def dAt (n : String) (D : List Int32) : List Cond := .arrayOf (dTm n) .byte :: .eq (.length (dTm n)) (.int 100) :: (List.range 100).map (fun j => .eq (.elem (dTm n) (.int (Int32.ofNat j))) (.int (D.getD j 0)))
theorem d1_in : ∀ w ∈ dAt "DigitOnes" sv_d1, w ∈ gvl := gv_in (ps := [65, 66, 67, 68, 69, 70, 71, 72, 73, 74, 75, 76, 77, 78, 79, 80, 81, 82, 83, 84, 85, 86, 87, 88, 89, 90, 91, 92, 93, 94, 95, 96, 97, 98, 99, 100, 101, 102, 103, 104, 105, 106, 107, 108, 109, 110, 111, 112, 113, 114, 115, 116, 117, 118, 119, 120, 121, 122, 123, 124, 125, 126, 127, 128, 129, 130, 131, 132, 133, 134, 135, 136, 137, 138, 139, 140, 141, 142, 143, 144, 145, 146, 147, 148, 149, 150, 151, 152, 153, 154, 155, 156, 157, 158, 159, 160, 161, 162, 163, 164, 165, 166]) (by decide +kernel)
theorem d10_in : ∀ w ∈ dAt "DigitTens" sv_d10, w ∈ gvl := gv_in (ps := [168, 169, 170, 171, 172, 173, 174, 175, 176, 177, 178, 179, 180, 181, 182, 183, 184, 185, 186, 187, 188, 189, 190, 191, 192, 193, 194, 195, 196, 197, 198, 199, 200, 201, 202, 203, 204, 205, 206, 207, 208, 209, 210, 211, 212, 213, 214, 215, 216, 217, 218, 219, 220, 221, 222, 223, 224, 225, 226, 227, 228, 229, 230, 231, 232, 233, 234, 235, 236, 237, 238, 239, 240, 241, 242, 243, 244, 245, 246, 247, 248, 249, 250, 251, 252, 253, 254, 255, 256, 257, 258, 259, 260, 261, 262, 263, 264, 265, 266, 267, 268, 269]) (by decide +kernel)
def wTm (i : Nat) : Term := .static "OffTheLead$Word" (wd_nm.getD i "") "LOffTheLead$Word;"
def aTm : Term := .static "OffTheLead$Word" "ALL" "[LOffTheLead$Word;"
def aAt : List Cond := .arrayOf aTm (.object "OffTheLead$Word") :: .eq (.length aTm) (.int 26) :: (List.range 26).map (fun j => .eq (.elem aTm (.int (Int32.ofNat j))) (wTm j))
theorem a_in : ∀ w ∈ aAt, w ∈ gvl := gv_in (ps := [10, 11, 13, 14, 15, 16, 17, 18, 19, 20, 21, 22, 23, 24, 25, 26, 27, 28, 29, 30, 31, 32, 33, 34, 35, 36, 37, 38]) (by decide +kernel)
def wAt (i : Nat) : List Cond := [.exactly (wTm i) "OffTheLead$Word", .eq (.field (wTm i) "java/lang/Enum" "ordinal" "I") (.int (Int32.ofNat i)), .eq (.field (wTm i) "OffTheLead$Word" "text" "Ljava/lang/String;") (sTm i)]
def wPos : List (List Nat) := [[46, 47, 48], [49, 50, 51], [52, 53, 54], [55, 56, 57], [58, 59, 60], [61, 62, 63], [270, 271, 272], [273, 274, 275], [276, 277, 278], [282, 283, 284], [285, 286, 287], [288, 289, 290], [279, 280, 281], [321, 322, 323], [318, 319, 320], [291, 292, 293], [294, 295, 296], [297, 298, 299], [300, 301, 302], [303, 304, 305], [306, 307, 308], [309, 310, 311], [312, 313, 314], [315, 316, 317], [43, 44, 45], [4, 5, 6]]
theorem wAt_eq : ∀ i, i < 26 → wAt i = (wPos.getD i []).filterMap (fun k => gvl[k]?) := by decide +kernel
theorem wAt_in {i : Nat} (hi : i < 26) : ∀ w ∈ wAt i, w ∈ gvl := gv_in (wAt_eq i hi)
theorem wd_l : ∀ i, i < 26 → (Cond.laysStatic "OffTheLead$Word" (wd_nm.getD i "") "LOffTheLead$Word;") ∈ lw_tbl
  | 0, _ => tw_604
  | 1, _ => tw_625
  | 2, _ => tw_639
  | 3, _ => tw_662
  | 4, _ => tw_672
  | 5, _ => tw_681
  | 6, _ => tw_1195
  | 7, _ => tw_1197
  | 8, _ => tw_1199
  | 9, _ => tw_1215
  | 10, _ => tw_1217
  | 11, _ => tw_1219
  | 12, _ => tw_1202
  | 13, _ => tw_1296
  | 14, _ => tw_1294
  | 15, _ => tw_1262
  | 16, _ => tw_1264
  | 17, _ => tw_1266
  | 18, _ => tw_1268
  | 19, _ => tw_1270
  | 20, _ => tw_1272
  | 21, _ => tw_1274
  | 22, _ => tw_1276
  | 23, _ => tw_1278
  | 24, _ => tw_591
  | 25, _ => tw_46
  | i + 26, h => absurd h (by omega)
theorem st_one {args : Array Value} {s : State} {A : Nat → Prop} (hs : ∀ w ∈ gvl, w.before args s = true) (hA : ∀ a : Nat, a < s.heap.size → ¬ A a) (i : Nat) (hi : i < 30) : ∃ q : Nat × Nat, (sTm i).eval args s none [] s = some (.ref q.1) ∧ va_O "java/lang/String" q.1 A s s.heap ∧ va_OF "java/lang/String" "coder" "B" (.int 0) q.1 A s s.heap ∧ va_OF "java/lang/String" "value" "[B" (.ref q.2) q.1 A s s.heap ∧ va_T .byte q.2 (sv_len.getD i 0) (fun j => .int ((sv_byt.getD i []).getD j 0)) A s s.heap := by
  have hw : ∀ w ∈ sAt i, w.before args s = true := fun w h => hs w (sAt_in hi w h)
  have h1 : (Cond.exactly (sTm i) "java/lang/String").before args s = true := hw _ List.mem_cons_self
  have h2 : (Cond.eq (.field (sTm i) "java/lang/String" "coder" "B") (.int 0)).before args s = true := hw _ (List.mem_cons_of_mem _ List.mem_cons_self)
  have h3 : (Cond.arrayOf (sVt i) .byte).before args s = true := hw _ (List.mem_cons_of_mem _ (List.mem_cons_of_mem _ List.mem_cons_self))
  have h4 : (Cond.eq (.length (sVt i)) (.int (Int32.ofNat (sv_len.getD i 0)))).before args s = true := hw _ (List.mem_cons_of_mem _ (List.mem_cons_of_mem _ (List.mem_cons_of_mem _ List.mem_cons_self)))
  have h5 : ∀ j, j < sv_len.getD i 0 → (Cond.eq (.elem (sVt i) (.int (Int32.ofNat j))) (.int ((sv_byt.getD i []).getD j 0))).before args s = true := fun j hj => hw _ (List.mem_cons_of_mem _ (List.mem_cons_of_mem _ (List.mem_cons_of_mem _ (List.mem_cons_of_mem _ (List.mem_map.mpr ⟨j, List.mem_range.mpr hj, rfl⟩)))))
  have hlen : sv_len.getD i 0 < 2 ^ 31 := by
    have : ∀ i, i < 30 → sv_len.getD i 0 < 2 ^ 31 := by decide
    exact this i hi
  obtain ⟨a, c, cA, kA, q1, q2, q3, q4, q5, q6, -⟩ := Cond.exactly_spec (args := args) (first := s) (o := none) (s := s) (idx := []) (t := sTm i) (cls := "java/lang/String") h1
  obtain ⟨t, ht, hT⟩ := va_Tof (f := fun j => .int ((sv_byt.getD i []).getD j 0)) (A := A) hlen h3 (va_eqt h4) (fun j hj => va_eqt (h5 j hj)) hA
  exact ⟨(a, t), q1, ⟨cA, q3, q5, by rw [q6]; exact q2, hA a (Array.getElem?_eq_some_iff.mp q3).1⟩, vk_OFof q1 (va_eqt h2) hA, vk_OFof q1 ht hA, hT⟩
theorem wd_one {args : Array Value} {s : State} {A : Nat → Prop} (hts0 : ∀ w ∈ lw_tbl, w.before args s = true) (hs : ∀ w ∈ gvl, w.before args s = true) (hA : ∀ a : Nat, a < s.heap.size → ¬ A a) (i : Nat) (hi : i < 26) : ∃ a : Nat, (wTm i).eval args s none [] s = some (.ref a) ∧ va_Z "OffTheLead$Word" (wd_nm.getD i "") "LOffTheLead$Word;" (.ref a) A s s.heap ∧ va_O "OffTheLead$Word" a A s s.heap ∧ va_OF "java/lang/Enum" "ordinal" "I" (.int (Int32.ofNat i)) a A s s.heap ∧ ∀ b : Nat, (sTm i).eval args s none [] s = some (.ref b) → va_OF "OffTheLead$Word" "text" "Ljava/lang/String;" (.ref b) a A s s.heap := by
  have hw : ∀ w ∈ wAt i, w.before args s = true := fun w h => hs w (wAt_in hi w h)
  have h1 : (Cond.exactly (wTm i) "OffTheLead$Word").before args s = true := hw _ List.mem_cons_self
  have h2 : (Cond.eq (.field (wTm i) "java/lang/Enum" "ordinal" "I") (.int (Int32.ofNat i))).before args s = true := hw _ (List.mem_cons_of_mem _ List.mem_cons_self)
  have h3 : (Cond.eq (.field (wTm i) "OffTheLead$Word" "text" "Ljava/lang/String;") (sTm i)).before args s = true := hw _ (List.mem_cons_of_mem _ (List.mem_cons_of_mem _ List.mem_cons_self))
  obtain ⟨a, c, cA, kA, q1, q2, q3, q4, q5, q6, -⟩ := Cond.exactly_spec (args := args) (first := s) (o := none) (s := s) (idx := []) (t := wTm i) (cls := "OffTheLead$Word") h1
  exact ⟨a, q1, va_Zref (hts0 _ (wd_l i hi)) (hts0 _ tw_4) q1 hA, ⟨cA, q3, q5, by rw [q6]; exact q2, hA a (Array.getElem?_eq_some_iff.mp q3).1⟩, vk_OFof q1 (va_eqt h2) hA, fun b hb => vk_OFof q1 (va_eqv h3 hb) hA⟩
theorem va_OF_inj {o n d : String} {v w : Value} {t : Nat} {A B : Nat → Prop} {U : State} {H : Heap} (h : va_OF o n d v t A U H) (g : va_OF o n d w t B U H) : v = w := by
  obtain ⟨cf, k, i, f, cell, h1, h2, h3, h4, h5, h6⟩ := h
  obtain ⟨cf', k', i', f', cell', g1, g2, g3, g4, g5, g6⟩ := g
  cases Option.some.inj (h1.symm.trans g1)
  cases Option.some.inj (h3.symm.trans g3)
  exact Option.some.inj (h5.symm.trans g5)
def mkad (wa sa sv : Nat → Nat) (ta t1 t10 : Nat) : Nat → Nat := fun i => if i < 26 then wa i else if i < 100 then 0 else if i < 130 then sa (i - 100) else if i < 200 then 0 else if i < 230 then sv (i - 200) else if i = 300 then ta else if i = 301 then t1 else t10
theorem dg_one {args : Array Value} {s : State} {A : Nat → Prop} {n : String} {D : List Int32} (hl : (Cond.laysStatic "java/lang/Integer" n "[B").before args s = true) (hini : (Cond.initialized "java/lang/Integer").before args s = true) (hw : ∀ w ∈ dAt n D, w.before args s = true) (hA : ∀ a : Nat, a < s.heap.size → ¬ A a) : ∃ t : Nat, va_Z "java/lang/Integer" n "[B" (.ref t) A s s.heap ∧ va_T .byte t 100 (fun j => .int (D.getD j 0)) A s s.heap := by
  have h3 : (Cond.arrayOf (dTm n) .byte).before args s = true := hw _ List.mem_cons_self
  have h4 : (Cond.eq (.length (dTm n)) (.int (Int32.ofNat 100))).before args s = true := hw _ (List.mem_cons_of_mem _ List.mem_cons_self)
  have h5 : ∀ j, j < 100 → (Cond.eq (.elem (dTm n) (.int (Int32.ofNat j))) (.int (D.getD j 0))).before args s = true := fun j hj => hw _ (List.mem_cons_of_mem _ (List.mem_cons_of_mem _ (List.mem_map.mpr ⟨j, List.mem_range.mpr hj, rfl⟩)))
  obtain ⟨t, ht, hT⟩ := va_Tof (f := fun j => .int (D.getD j 0)) (A := A) (N := 100) (by decide) h3 (va_eqt h4) (fun j hj => va_eqt (h5 j hj)) hA
  exact ⟨t, va_Zref hl hini ht hA, hT⟩
theorem EV.start {args : Array Value} {s : State} {A : Nat → Prop} (hts0 : ∀ w ∈ lw_tbl, w.before args s = true) (hgv : (Jvm.Cond.and given_1 narrow_1).before args s = true) (hA : ∀ a : Nat, a < s.heap.size → ¬ A a) : ∃ ad : Nat → Nat, EV ad A s s.heap := by
  have hs : ∀ w ∈ gvl, w.before args s = true := flat_of_before _ hgv
  have hwd := wd_one (A := A) hts0 hs hA
  have hst := st_one (A := A) hs hA
  obtain ⟨t1, z1, T1⟩ := dg_one (A := A) (hts0 _ tw_1141) (hts0 _ tw_25) (fun w h => hs w (d1_in w h)) hA
  obtain ⟨t10, z10, T10⟩ := dg_one (A := A) (hts0 _ tw_1143) (hts0 _ tw_25) (fun w h => hs w (d10_in w h)) hA
  obtain ⟨wa, hwa⟩ : ∃ wa : Nat → Nat, ∀ i, (hi : i < 26) → (wTm i).eval args s none [] s = some (.ref (wa i)) ∧ va_Z "OffTheLead$Word" (wd_nm.getD i "") "LOffTheLead$Word;" (.ref (wa i)) A s s.heap ∧ va_O "OffTheLead$Word" (wa i) A s s.heap ∧ va_OF "java/lang/Enum" "ordinal" "I" (.int (Int32.ofNat i)) (wa i) A s s.heap ∧ ∀ b : Nat, (sTm i).eval args s none [] s = some (.ref b) → va_OF "OffTheLead$Word" "text" "Ljava/lang/String;" (.ref b) (wa i) A s s.heap := by
    refine ⟨fun i => if h : i < 26 then Classical.choose (hwd i h) else 0, fun i hi => ?_⟩
    simp only [hi, dite_true]
    exact Classical.choose_spec (hwd i hi)
  obtain ⟨ss, hss⟩ : ∃ ss : Nat → Nat × Nat, ∀ i, (hi : i < 30) → (sTm i).eval args s none [] s = some (.ref (ss i).1) ∧ va_O "java/lang/String" (ss i).1 A s s.heap ∧ va_OF "java/lang/String" "coder" "B" (.int 0) (ss i).1 A s s.heap ∧ va_OF "java/lang/String" "value" "[B" (.ref (ss i).2) (ss i).1 A s s.heap ∧ va_T .byte (ss i).2 (sv_len.getD i 0) (fun j => .int ((sv_byt.getD i []).getD j 0)) A s s.heap := by
    refine ⟨fun i => if h : i < 30 then Classical.choose (hst i h) else (0, 0), fun i hi => ?_⟩
    simp only [hi, dite_true]
    exact Classical.choose_spec (hst i hi)
  have hal : ∀ w ∈ aAt, w.before args s = true := fun w h => hs w (a_in w h)
  have ha4 : (Cond.eq (.length aTm) (.int (Int32.ofNat 26))).before args s = true := hal _ (List.mem_cons_of_mem _ List.mem_cons_self)
  obtain ⟨ta, hta, Ta⟩ := va_Tof (tm := aTm) (f := fun j => .ref (wa j)) (A := A) (N := 26) (by decide) (hal _ List.mem_cons_self) (va_eqt ha4) (fun j hj => va_eqv (hal _ (List.mem_cons_of_mem _ (List.mem_cons_of_mem _ (List.mem_map.mpr ⟨j, List.mem_range.mpr hj, rfl⟩)))) (hwa j hj).1) hA
  have eW : ∀ i, i < 26 → mkad wa (fun i => (ss i).1) (fun i => (ss i).2) ta t1 t10 i = wa i := fun i hi => by unfold mkad; rw [if_pos hi]
  have eS : ∀ i, i < 30 → mkad wa (fun i => (ss i).1) (fun i => (ss i).2) ta t1 t10 (100 + i) = (ss i).1 := fun i hi => by
    unfold mkad
    rw [if_neg (by omega), if_neg (by omega), if_pos (by omega), Nat.add_sub_cancel_left]
  have eV : ∀ i, i < 30 → mkad wa (fun i => (ss i).1) (fun i => (ss i).2) ta t1 t10 (200 + i) = (ss i).2 := fun i hi => by
    unfold mkad
    rw [if_neg (by omega), if_neg (by omega), if_neg (by omega), if_neg (by omega), if_pos (by omega), Nat.add_sub_cancel_left]
  have e300 : mkad wa (fun i => (ss i).1) (fun i => (ss i).2) ta t1 t10 300 = ta := rfl
  have e301 : mkad wa (fun i => (ss i).1) (fun i => (ss i).2) ta t1 t10 301 = t1 := rfl
  have e302 : mkad wa (fun i => (ss i).1) (fun i => (ss i).2) ta t1 t10 302 = t10 := rfl
  refine ⟨mkad wa (fun i => (ss i).1) (fun i => (ss i).2) ta t1 t10, ?_⟩
  generalize mkad wa (fun i => (ss i).1) (fun i => (ss i).2) ta t1 t10 = ad at *
  refine ⟨fun q hq => va_Nw.of rfl (hts0 _ (nwF_in q hq)), fun q hq => va_Nw.of rfl (hts0 _ (nwM_in q hq)), ⟨va_AO.of (hts0 _ tw_122), va_AO.of (hts0 _ tw_401), va_AO.of (hts0 _ tw_120), va_AO.of (hts0 _ tw_414), va_AO.of (hts0 _ tw_336)⟩, ⟨fun i hi => ?_, fun i j hi hj e => ?_⟩, va_Zof (hts0 _ tw_425) (hts0 _ tw_15) (va_eqi (hs _ (List.mem_of_getElem? (i := 7) (by decide +kernel)))) hA, ⟨⟨?_, ?_, fun i hi => ?_⟩, fun i hi => ?_, ⟨?_, ?_, ?_, ?_⟩, ⟨⟨?_, ?_⟩, ?_, ?_⟩, ?_⟩⟩
  · have hi' : i < 26 := hi
    have h := hwa i hi'
    rw [eW i hi']
    refine ⟨h.2.1, h.2.2.1, fun q hq => ?_⟩
    obtain rfl : q = ("java/lang/Enum", "ordinal", "I", [0, 1, 2, 3, 4, 5, 6, 7, 8, 9, 10, 11, 12, 13, 14, 15, 16, 17, 18, 19, 20, 21, 22, 23, 24, 25]) := by simpa [wd_F] using hq
    have e2 : (([0, 1, 2, 3, 4, 5, 6, 7, 8, 9, 10, 11, 12, 13, 14, 15, 16, 17, 18, 19, 20, 21, 22, 23, 24, 25] : List Int32).getD i 0) = Int32.ofNat i := by
      have : ∀ i, i < 26 → (([0, 1, 2, 3, 4, 5, 6, 7, 8, 9, 10, 11, 12, 13, 14, 15, 16, 17, 18, 19, 20, 21, 22, 23, 24, 25] : List Int32).getD i 0) = Int32.ofNat i := by decide +kernel
      exact this i hi'
    show va_OF "java/lang/Enum" "ordinal" "I" (.int (([0, 1, 2, 3, 4, 5, 6, 7, 8, 9, 10, 11, 12, 13, 14, 15, 16, 17, 18, 19, 20, 21, 22, 23, 24, 25] : List Int32).getD i 0)) _ A s s.heap
    rw [e2]
    exact h.2.2.2.1
  · have hi' : i < 26 := hi
    have hj' : j < 26 := hj
    rw [eW i hi', eW j hj'] at e
    have h1 := (hwa i hi').2.2.2.1
    have h2 := (hwa j hj').2.2.2.1
    rw [e] at h1
    have h3 := va_OF_inj h1 h2
    have h4 : Int32.ofNat i = Int32.ofNat j := by injection h3
    have : ∀ i, i < 26 → ∀ j, j < 26 → Int32.ofNat i = Int32.ofNat j → i = j := by decide +kernel
    exact this i hi' j hj' h4
  · rw [e300]
    exact va_Zref (hts0 _ tw_542) (hts0 _ tw_4) hta hA
  · rw [e300]
    obtain ⟨cell, c1, c2, c3, c4, c5, c6, c7⟩ := Ta
    exact ⟨cell, c1, c2, c3, c4, c5, fun j hj => by
      show cell.slots[j]? = some (Value.ref (ad j))
      rw [eW j hj]
      exact c6 j hj, c7⟩
  · rw [eW i hi, eS i (by omega)]
    exact (hwa i hi).2.2.2.2 _ (hss i (by omega)).1
  · unfold SV1
    rw [eS i hi, eV i hi]
    exact (hss i hi).2
  · rw [eS 26 (by omega)]
    exact vk_R.of (hts0 _ tw_1086) (hss 26 (by omega)).1
  · rw [eS 27 (by omega)]
    exact vk_R.of (hts0 _ tw_1126) (hss 27 (by omega)).1
  · rw [eS 28 (by omega)]
    exact vk_R.of (hts0 _ tw_1152) (hss 28 (by omega)).1
  · rw [eS 29 (by omega)]
    exact vk_R.of (hts0 _ tw_1153) (hss 29 (by omega)).1
  · rw [e301]; exact z1
  · rw [e301]; exact T1
  · rw [e302]; exact z10
  · rw [e302]; exact T10
  · exact va_Zqof (hts0 _ tw_567) (hts0 _ tw_19) (hs _ (List.mem_of_getElem? (i := 39) (by decide +kernel))) hA
