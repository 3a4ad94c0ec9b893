set_option maxRecDepth 100000 in
theorem f_readBookLineJ (l : Launch) (dC : Nat → ClassId) (dI : Nat → Nat → Nat) (ar : Nat → Nat) (cy : Nat → ClassId) (sz : Nat) (hN : MN ar) (st : Nat → Nat → Int32) (sl : Nat → Nat → Int64) (B : Nat → Nat) (g m : Nat) (p : Nat) (c : Nat → Nat) (nm : Nat → Nat → Nat) (gl : Nat) (hI : MI st) (hB : MBt B g m st) (hT : TM B g m p st sl) (hR : RN c nm st sl) (h40 : st 0 40 = nI gl) (hgl : gl ≤ 40) (hLI : LI st gl) : Met l yX12_readBookLine wsX12_readBookLine ({ frames := 6, cells := 0, slots := 0, locals := 134 }) (va_Pc [.ref (ar 0)] (mPre dC dI ar cy sz st sl)) (va_Qi (fun (r : Int32) (x : MT) => MG [1, 2, 3, 6, 7, 8, 9, 10, 11, 12, 14, 15, 20, 21, 22] st x.1 ∧ FM 7 st sl x.1 x.2 ∧ ((∃ q : Nat, r = 1 ∧ TM B g m q x.1 x.2 ∧ bLn B g m c nm p gl = (0, q, 0) ∧ x.1 0 10 = st 0 10 ∧ LI x.1 (gl + 1) ∧ gl < 40) ∨ (∃ f : Nat, ∃ a : Nat, r = 0 ∧ x.1 0 10 = nI f ∧ x.1 0 11 = nI a ∧ 1 ≤ f ∧ bLn B g m c nm p gl = sf f a))) (mB dC dI ar cy) (MA ar sz)) 0 0 (MA ar sz) := by
  have hTS : TS st (tkx B g m p) g := ⟨hT.1, hB.1, (tkx_le (B := B) (g := g) (m := m) (p := p) hT.2.2.2.2.2.2).2, hB.2.2.1⟩
  have h9 := zz_bothx (rm := { frames := 6, cells := 0, slots := 0, locals := 134 }) (R := fun r x => r = 1 → LI x.1 (gl + 1) ∧ gl < 40) (f_readBookLine l dC dI ar cy sz hN st sl B g m p c nm gl hI hB hT hR h40 hgl) (m_readBookLine l dC dI ar cy sz hN st sl gl (tkx B g m p) g hI hTS h40 hLI (by omega)) (fun r x x2 t hb hb2 h2 hr => by
    rcases h2.2.2 with ⟨g2, _, _, _, hl, hg⟩ | h0
    · exact ⟨hl.to (by omega) (zz_mline hb hb2), hg⟩
    · rw [hr] at h0; exact absurd h0 (by decide)) ⟨Nat.le_of_ble_eq_true rfl, Nat.le_of_ble_eq_true rfl, Nat.le_of_ble_eq_true rfl, Nat.le_of_ble_eq_true rfl⟩ ⟨Nat.le_of_ble_eq_true rfl, Nat.le_of_ble_eq_true rfl, Nat.le_of_ble_eq_true rfl, Nat.le_of_ble_eq_true rfl⟩
  refine zz_post h9 (fun r x h => ?_)
  obtain ⟨⟨q1, q2, q3⟩, q4⟩ := h
  refine ⟨q1, q2, ?_⟩
  rcases q3 with ⟨q, a1, a2, a3, a4⟩ | q3
  · exact Or.inl ⟨q, a1, a2, a3, a4, q4 a1⟩
  · exact Or.inr q3
