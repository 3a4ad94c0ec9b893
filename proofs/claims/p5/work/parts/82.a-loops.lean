/-! loops and same writes -/
section ZL
variable {p : Program} {l : Launch} {e : Env} {R : Room} {s : State} {m : MethodId} {args : Array Value} {below : List Frame} {meth : Method} {c : Code} {cells slots : Nat} {Q : State → Prop} {pc : Nat} {st : List Value}
theorem zz_loop {σ : Type} (I : Nat → σ → Heap → List Loc → Array Slot → Prop) (E : Nat)
    (hs : ∀ (k : Nat) (x : σ) (H : Heap) (locs : List Loc) (ls : Array Slot), k < E → I k x H locs ls → (∀ (x' : σ) (H' : Heap) (locs' : List Loc) (ls' : Array Slot), I (k + 1) x' H' locs' ls' → W p l e R s m args below meth c H' locs' cells slots Q (F0 m pc ls' st)) → W p l e R s m args below meth c H locs cells slots Q (F0 m pc ls st))
    (hx : ∀ (x : σ) (H : Heap) (locs : List Loc) (ls : Array Slot), I E x H locs ls → W p l e R s m args below meth c H locs cells slots Q (F0 m pc ls st))
    (k : Nat) (x : σ) (H : Heap) (locs : List Loc) (ls : Array Slot) (hk : k ≤ E) (h : I k x H locs ls) : W p l e R s m args below meth c H locs cells slots Q (F0 m pc ls st) := by
  obtain ⟨n, hn⟩ : ∃ n, n = E - k := ⟨_, rfl⟩
  induction n generalizing k x H locs ls with
  | zero =>
    obtain rfl : k = E := by omega
    exact hx x H locs ls h
  | succ n ih =>
    exact hs k x H locs ls (by omega) h (fun x' H' locs' ls' h' => ih (k + 1) x' H' locs' ls' (by omega) h' (by omega))
end ZL
theorem zz_addr (k n : Nat) : nI k + Int32.ofNat n = nI (k + n) := nI_add k n
theorem zz_addl (k n : Nat) : Int32.ofNat n + nI k = nI (k + n) := by rw [Nat.add_comm]; exact nI_add n k
theorem zz_sw {f : Nat → Int32} {i : Nat} {v : Int32} (h : f i = v) : upd f i v = f := by
  funext j
  by_cases hj : j = i
  · subst hj; rw [pk_us, h]
  · rw [pk_un hj]
theorem zz_swl {f : Nat → Int64} {i : Nat} {v : Int64} (h : f i = v) : vp_updL f i v = f := by
  funext j
  by_cases hj : j = i
  · subst hj; rw [pk_uLs, h]
  · rw [pk_uLn hj]
theorem zz_uu {f : Nat → Int32} {i : Nat} {v w : Int32} : upd (upd f i v) i w = upd f i w := by
  funext j
  by_cases hj : j = i
  · subst hj; rw [pk_us, pk_us]
  · rw [pk_un hj, pk_un hj, pk_un hj]
theorem zz_uul {f : Nat → Int64} {i : Nat} {v w : Int64} : vp_updL (vp_updL f i v) i w = vp_updL f i w := by
  funext j
  by_cases hj : j = i
  · subst hj; rw [pk_uLs, pk_uLs]
  · rw [pk_uLn hj, pk_uLn hj, pk_uLn hj]
theorem sw_zero (k : Nat) : upd (fun _ => (0 : Int32)) (nI k).toNatClampNeg 0 = fun _ => 0 := zz_sw rfl
theorem sw_start (k : Nat) (h : 61 ≤ k) (h2 : k < 373) : upd (upd (fun _ => (0 : Int32)) 60 2) (nI k).toNatClampNeg 0 = upd (fun _ => 0) 60 2 := by
  rw [nI_clamp (by omega)]
  exact zz_sw (by rw [pk_un (by omega)])
