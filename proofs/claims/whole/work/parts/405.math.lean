/-! how many states an instruction takes -/
theorem m_hr (f : Nat → Int32) (a : Nat → Nat → Int32) (p : Int32) : (xReturnIf f a p).1 = 0 ∨ (xReturnIf f a p).1 = 6 := by
  unfold xReturnIf
  by_cases q : p = 0
  · rw [if_pos q]; exact Or.inl rfl
  · rw [if_neg q]; exact Or.inr rfl
theorem m_hc (f : Nat → Int32) (a : Nat → Nat → Int32) (p : Int32) : (xCallIf f a p).1 = 0 ∨ (xCallIf f a p).1 = 6 := by
  unfold xCallIf
  generalize xFetchWord f a = X
  obtain ⟨w, f1⟩ := X
  dsimp only
  by_cases q : p = 0
  · rw [if_pos q]; exact Or.inl rfl
  · rw [if_neg q]; exact Or.inr rfl
theorem m_hx (f : Nat → Int32) (a : Nat → Nat → Int32) (p : Int32) : (xExecuteHigh f a p).1 = 0 ∨ (xExecuteHigh f a p).1 = 6 := by
  unfold xExecuteHigh
  by_cases q0 : p &&& (7 : Int32) = (0 : Int32)
  · rw [if_pos q0]; exact m_hr f a _
  rw [if_neg q0]
  by_cases q1 : p &&& (7 : Int32) = (1 : Int32)
  · rw [if_pos q1]; exact Or.inl rfl
  rw [if_neg q1]
  by_cases q2 : p &&& (7 : Int32) = (2 : Int32)
  · rw [if_pos q2]; exact Or.inl rfl
  rw [if_neg q2]
  by_cases q3 : p &&& (7 : Int32) = (3 : Int32)
  · rw [if_pos q3]; exact Or.inl rfl
  rw [if_neg q3]
  by_cases q4 : p &&& (7 : Int32) = (4 : Int32)
  · rw [if_pos q4]; exact m_hc f a _
  rw [if_neg q4]
  by_cases q5 : p &&& (7 : Int32) = (5 : Int32)
  · rw [if_pos q5]
    by_cases e1 : ((p >>> ((3 : Int32) &&& 31)) &&& (7 : Int32)) &&& (1 : Int32) = 0
    · rw [if_pos e1]
      by_cases e2 : (p >>> ((3 : Int32) &&& 31)) &&& (7 : Int32) = (6 : Int32)
      · rw [if_pos e2]; exact Or.inl rfl
      · rw [if_neg e2]; exact Or.inl rfl
    · rw [if_neg e1]; exact Or.inl rfl
  rw [if_neg q5]
  by_cases q6 : p &&& (7 : Int32) = (6 : Int32)
  · rw [if_pos q6]; exact Or.inl rfl
  rw [if_neg q6]; exact Or.inl rfl
def Cn (x : Int32) : Prop := ∃ m : Nat, 1 ≤ m ∧ m ≤ 24 ∧ x = nI m
theorem m_cnL : ∀ y z : Fin 8, ∃ m : Fin 25, 1 ≤ m.val ∧ lowN y.val z.val = nI m.val := by decide +kernel
theorem m_cnH : ∀ y z : Fin 8, (∃ m : Fin 25, 1 ≤ m.val ∧ highN y.val z.val = nI m.val) ∧ (∃ m : Fin 25, 1 ≤ m.val ∧ highN y.val z.val + (6 : Int32) = nI m.val) := by decide +kernel
theorem cn_low {y z : Nat} (hy : y < 8) (hz : z < 8) : Cn (lowN y z) := by
  obtain ⟨m, h1, e⟩ := m_cnL ⟨y, hy⟩ ⟨z, hz⟩
  exact ⟨m.val, h1, by omega, e⟩
theorem cn_high {y z : Nat} (hy : y < 8) (hz : z < 8) {x : Int32} (hx : x = 0 ∨ x = 6) : Cn (highN y z + x) := by
  obtain ⟨⟨m, h1, e⟩, m', h1', e'⟩ := m_cnH ⟨y, hy⟩ ⟨z, hz⟩
  rcases hx with rfl | rfl
  · rw [Int32.add_zero]; exact ⟨m.val, h1, by omega, e⟩
  · exact ⟨m'.val, h1', by omega, e'⟩
theorem cn_lit {m : Nat} (h1 : 1 ≤ m) (h2 : m ≤ 24) : Cn (nI m) := ⟨m, h1, h2, rfl⟩
