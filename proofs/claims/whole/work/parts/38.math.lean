/-! the first quarter of the codes -/
def lowN (y z : Nat) : Int32 := if z = 0 then (4 : Int32) else if z = 1 then (10 : Int32) else if z = 2 then movN y else if z = 3 then (5 : Int32) else if z = 4 then (if nI y = (6 : Int32) then (10 : Int32) else (5 : Int32)) else if z = 5 then (if nI y = (6 : Int32) then (10 : Int32) else (5 : Int32)) else if z = 6 then (if nI y = (6 : Int32) then (10 : Int32) else (7 : Int32)) else (4 : Int32)
theorem m_cut0 : ∀ y z : Fin 8, (nI (8 * y.val + z.val) &&& (7 : Int32) = nI z.val ∧ (nI (8 * y.val + z.val) >>> ((3 : Int32) &&& 31)) &&& (7 : Int32) = nI y.val) ∧ ((nI (8 * y.val + z.val) >>> ((4 : Int32) &&& 31)) &&& (3 : Int32) = nI (y.val / 2) ∧ (nI (8 * y.val + z.val) &&& (8 : Int32) = 0 ↔ y.val % 2 = 0)) ∧ (nI y.val >>> ((1 : Int32) &&& 31) = nI (y.val / 2) ∧ nI y.val &&& (1 : Int32) = nI (y.val % 2)) := by decide +kernel
theorem m_cut {y z : Nat} (hy : y < 8) (hz : z < 8) : (nI (8 * y + z) &&& (7 : Int32) = nI z ∧ (nI (8 * y + z) >>> ((3 : Int32) &&& 31)) &&& (7 : Int32) = nI y) ∧ ((nI (8 * y + z) >>> ((4 : Int32) &&& 31)) &&& (3 : Int32) = nI (y / 2) ∧ (nI (8 * y + z) &&& (8 : Int32) = 0 ↔ y % 2 = 0)) ∧ (nI y >>> ((1 : Int32) &&& 31) = nI (y / 2) ∧ nI y &&& (1 : Int32) = nI (y % 2)) := m_cut0 ⟨y, hy⟩ ⟨z, hz⟩
theorem m_lowX {c : Int32} {g f F : Nat → Int32} {a : Nat → Nat → Int32} (h : Si c g f F) (hA : OkA a) {y z : Nat} (hy : y < 8) (hz : z < 8) : Rel c g (xExecuteLow f a (nI (8 * y + z))) (rLow F a (nI y) (nI z)).2 ∧ (rLow F a (nI y) (nI z)).1 = lowN y z := by
  obtain ⟨⟨c1, c2⟩, ⟨c3, c4⟩, c5, c6⟩ := m_cut hy hz
  unfold xExecuteLow rLow
  rw [c1, c2, c3, c5, c6]
  have hz8 : z = 0 ∨ z = 1 ∨ z = 2 ∨ z = 3 ∨ z = 4 ∨ z = 5 ∨ z = 6 ∨ z = 7 := by omega
  by_cases e : y % 2 = 0
  · rw [if_pos (c4.mpr e), e, if_neg (show ¬ nI 0 = (1 : Int32) by decide)]
    rcases hz8 with rfl | rfl | rfl | rfl | rfl | rfl | rfl | rfl
    · rw [if_neg (by decide), if_neg (by decide), if_neg (by decide), if_neg (by decide), if_neg (by decide), if_neg (by decide), if_neg (by decide), if_pos (by decide)]
      exact ⟨⟨rfl, h, hA⟩, rfl⟩
    · rw [if_pos (by decide), if_neg (by decide), if_pos (by decide)]
      obtain ⟨n1, n2⟩ := m_nextTwo (a := a) h
      generalize xFetchWord f a = X at n1 n2 ⊢
      generalize rNextTwo F a = Y at n1 n2 ⊢
      obtain ⟨w, f1⟩ := X
      obtain ⟨w', F1⟩ := Y
      dsimp only at n1 n2
      subst n1
      dsimp only
      exact ⟨m_setPair n2 hA (by omega) _, rfl⟩
    · rw [if_neg (by decide), if_pos (by decide), if_neg (by decide), if_neg (by decide), if_pos (by decide)]
      exact m_moved h hA hy
    · rw [if_neg (by decide), if_neg (by decide), if_pos (by decide), if_neg (by decide), if_neg (by decide), if_neg (by decide), if_pos (by decide)]
      rw [m_pair h (by omega), ← m_spo]
      exact ⟨m_setPair h hA (by omega) _, rfl⟩
    · rw [if_neg (by decide), if_neg (by decide), if_neg (by decide), if_pos (by decide), if_neg (by decide), if_neg (by decide), if_neg (by decide), if_neg (by decide), if_neg (by decide), if_pos (by decide)]
      have q := m_count1 h hA hy
      generalize rCount F a (nI y) (1 : Int32) = Y at q ⊢
      obtain ⟨F1, a1⟩ := Y
      dsimp only
      by_cases q6 : nI y = (6 : Int32)
      · rw [if_pos q6]; exact ⟨q, (if_pos q6).symm⟩
      · rw [if_neg q6]; exact ⟨q, (if_neg q6).symm⟩
    · rw [if_neg (by decide), if_neg (by decide), if_neg (by decide), if_neg (by decide), if_pos (by decide), if_neg (by decide), if_neg (by decide), if_neg (by decide), if_neg (by decide), if_neg (by decide), if_neg (by decide)]
      have q := m_count2 h hA hy
      generalize rCount F a (nI y) (-1 : Int32) = Y at q ⊢
      obtain ⟨F1, a1⟩ := Y
      dsimp only
      by_cases q6 : nI y = (6 : Int32)
      · rw [if_pos q6]; exact ⟨q, (if_pos q6).symm⟩
      · rw [if_neg q6]; exact ⟨q, (if_neg q6).symm⟩
    · rw [if_neg (by decide), if_neg (by decide), if_neg (by decide), if_neg (by decide), if_neg (by decide), if_pos (by decide), if_neg (by decide), if_neg (by decide), if_neg (by decide), if_neg (by decide), if_pos (by decide), if_pos (by decide)]
      obtain ⟨n1, n2⟩ := m_next (a := a) h
      have hb : By (xFetch f a).1 := by_read hA _
      generalize xFetch f a = X at n1 n2 hb ⊢
      generalize rNext F a = Y at n1 n2 ⊢
      obtain ⟨w, f1⟩ := X
      obtain ⟨w', F1⟩ := Y
      dsimp only at n1 n2 hb
      subst n1
      dsimp only
      have q : Rel c g (f1, xSetOperand f1 a (nI y) w') (F1, rSet F1 a (nI y) w') := by
        have e2 := m_set f1 F1 a (nI y) w' hb
        rw [j7 hy] at e2
        exact ⟨e2, n2, e2 ▸ ok_set (f := f1) hA (nI y) hb⟩
      by_cases q6 : nI y = (6 : Int32)
      · rw [if_pos q6]; exact ⟨q, (if_pos q6).symm⟩
      · rw [if_neg q6]; exact ⟨q, (if_neg q6).symm⟩
    · rw [if_neg (by decide), if_neg (by decide), if_neg (by decide), if_neg (by decide), if_neg (by decide), if_neg (by decide), if_pos (by decide), if_neg (by decide), if_neg (by decide), if_neg (by decide), if_neg (by decide), if_pos (by decide), if_neg (by decide)]
      exact ⟨m_turn h hA hy, rfl⟩
  · rw [if_neg (fun q => e (c4.mp q)), (by omega : y % 2 = 1), if_pos (show nI 1 = (1 : Int32) by decide)]
    rcases hz8 with rfl | rfl | rfl | rfl | rfl | rfl | rfl | rfl
    · rw [if_neg (by decide), if_neg (by decide), if_neg (by decide), if_neg (by decide), if_neg (by decide), if_neg (by decide), if_neg (by decide), if_pos (by decide)]
      exact ⟨⟨rfl, h, hA⟩, rfl⟩
    · rw [if_pos (by decide), if_neg (by decide), if_pos (by decide)]
      rw [m_pair h (by omega)]
      exact ⟨m_dad h hA (wd_pair h hA (by omega)), rfl⟩
    · rw [if_neg (by decide), if_pos (by decide), if_neg (by decide), if_neg (by decide), if_pos (by decide)]
      exact m_moved h hA hy
    · rw [if_neg (by decide), if_neg (by decide), if_pos (by decide), if_neg (by decide), if_neg (by decide), if_neg (by decide), if_pos (by decide)]
      rw [m_pair h (by omega), ← m_spo]
      exact ⟨m_setPair h hA (by omega) _, rfl⟩
    · rw [if_neg (by decide), if_neg (by decide), if_neg (by decide), if_pos (by decide), if_neg (by decide), if_neg (by decide), if_neg (by decide), if_neg (by decide), if_neg (by decide), if_pos (by decide)]
      have q := m_count1 h hA hy
      generalize rCount F a (nI y) (1 : Int32) = Y at q ⊢
      obtain ⟨F1, a1⟩ := Y
      dsimp only
      by_cases q6 : nI y = (6 : Int32)
      · rw [if_pos q6]; exact ⟨q, (if_pos q6).symm⟩
      · rw [if_neg q6]; exact ⟨q, (if_neg q6).symm⟩
    · rw [if_neg (by decide), if_neg (by decide), if_neg (by decide), if_neg (by decide), if_pos (by decide), if_neg (by decide), if_neg (by decide), if_neg (by decide), if_neg (by decide), if_neg (by decide), if_neg (by decide)]
      have q := m_count2 h hA hy
      generalize rCount F a (nI y) (-1 : Int32) = Y at q ⊢
      obtain ⟨F1, a1⟩ := Y
      dsimp only
      by_cases q6 : nI y = (6 : Int32)
      · rw [if_pos q6]; exact ⟨q, (if_pos q6).symm⟩
      · rw [if_neg q6]; exact ⟨q, (if_neg q6).symm⟩
    · rw [if_neg (by decide), if_neg (by decide), if_neg (by decide), if_neg (by decide), if_neg (by decide), if_pos (by decide), if_neg (by decide), if_neg (by decide), if_neg (by decide), if_neg (by decide), if_pos (by decide), if_pos (by decide)]
      obtain ⟨n1, n2⟩ := m_next (a := a) h
      have hb : By (xFetch f a).1 := by_read hA _
      generalize xFetch f a = X at n1 n2 hb ⊢
      generalize rNext F a = Y at n1 n2 ⊢
      obtain ⟨w, f1⟩ := X
      obtain ⟨w', F1⟩ := Y
      dsimp only at n1 n2 hb
      subst n1
      dsimp only
      have q : Rel c g (f1, xSetOperand f1 a (nI y) w') (F1, rSet F1 a (nI y) w') := by
        have e2 := m_set f1 F1 a (nI y) w' hb
        rw [j7 hy] at e2
        exact ⟨e2, n2, e2 ▸ ok_set (f := f1) hA (nI y) hb⟩
      by_cases q6 : nI y = (6 : Int32)
      · rw [if_pos q6]; exact ⟨q, (if_pos q6).symm⟩
      · rw [if_neg q6]; exact ⟨q, (if_neg q6).symm⟩
    · rw [if_neg (by decide), if_neg (by decide), if_neg (by decide), if_neg (by decide), if_neg (by decide), if_neg (by decide), if_pos (by decide), if_neg (by decide), if_neg (by decide), if_neg (by decide), if_neg (by decide), if_pos (by decide), if_neg (by decide)]
      exact ⟨m_turn h hA hy, rfl⟩
