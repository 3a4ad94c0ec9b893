def CP (D : va_G) (ws : va_W) (tys : List (ClassId × FieldType)) (sz : Nat) (ad : Nat → Nat) (U : State) : Prop := U.heap.size = sz ∧ va_P D vwCl ws U.heap ∧ va_K D vwCl tys U ∧ va_D (fun _ => True) ws ∧ EV ad (va_A ws sz) U U.heap
theorem CP.blind {D : va_G} {ws : va_W} {tys : List (ClassId × FieldType)} {sz : Nat} {ad : Nat → Nat} {U : State} {g : JFrame} {mk : MethodId} {a : Array Value} (q : CP D ws tys sz ad U) : CP D ws tys sz ad (U.calling g mk a) := by
  obtain ⟨q1, qP, qK, qD, qE⟩ := q
  exact ⟨q1, qP, va_K.moved (u := U) (U := U.calling g mk a) (Vm.Alike.refl U.vm) qK, qD, EV.blind qE⟩
theorem CP.of {D : va_G} {ws : va_W} {tys : List (ClassId × FieldType)} {ad : Nat → Nat} {A : Nat → Prop} {s U : State} {H : Heap} {locs : List Loc} (hP : va_P D vwCl ws H) (hK : va_K D vwCl tys s) (hD : va_D A ws) (hE : EV ad A s s.heap) (hS : va_S A s.heap H locs) (hF : ∀ q, va_A ws H.size q → A q) (hU : U.heap = H) (hW : s.WarmedH U.vm) : CP D ws tys H.size ad U :=
  ⟨by rw [hU], by rw [hU]; exact hP, va_K.moved hW.alike hK, hD.weaken (fun _ _ _ _ => trivial), EV.call hE hS hF hU hW⟩
def CQ (D : va_G) (ws : va_W) (tys : List (ClassId × FieldType)) (A : Nat → Prop) (t : State) : Prop := va_P D vwCl ws t.heap ∧ va_K D vwCl tys t ∧ va_D A ws
