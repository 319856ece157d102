/-! one instruction -/
theorem m_q0 : ∀ n : Fin 256, nI n.val >>> ((6 : Int32) &&& 31) = nI (n.val / 64) ∧ (nI n.val &&& (255 : Int32)).toNatClampNeg = n.val := by decide +kernel
theorem m_lowT : ∀ y z : Fin 8, xSt (8 * y.val + z.val) = lowN y.val z.val := by decide +kernel
theorem m_highT : ∀ y z : Fin 8, xSt (192 + 8 * y.val + z.val) = highN y.val z.val := by decide +kernel
theorem m_movT : ∀ y z : Fin 8, xSt (64 + 8 * y.val + z.val) = if nI y.val = (6 : Int32) then (7 : Int32) else if nI z.val = (6 : Int32) then (7 : Int32) else (5 : Int32) := by decide +kernel
theorem m_aluT : ∀ y z : Fin 8, xSt (128 + 8 * y.val + z.val) = if nI z.val = (6 : Int32) then (7 : Int32) else (4 : Int32) := by decide +kernel
theorem m_mcut0 : ∀ y z : Fin 8, (nI (64 + 8 * y.val + z.val) &&& (7 : Int32) = nI z.val ∧ (nI (64 + 8 * y.val + z.val) >>> ((3 : Int32) &&& 31)) &&& (7 : Int32) = nI y.val) ∧ (nI (128 + 8 * y.val + z.val) &&& (7 : Int32) = nI z.val ∧ (nI (128 + 8 * y.val + z.val) >>> ((3 : Int32) &&& 31)) &&& (7 : Int32) = nI y.val) ∧ (nI (64 + 8 * y.val + z.val) = (118 : Int32) ↔ nI y.val = (6 : Int32) ∧ nI z.val = (6 : Int32)) ∧ (¬ nI (128 + 8 * y.val + z.val) = (118 : Int32) ∧ ¬ nI (8 * y.val + z.val) = (118 : Int32) ∧ ¬ nI (192 + 8 * y.val + z.val) = (118 : Int32)) := by decide +kernel
/-- what follows an instruction in the class: the pending permission -/
def xPend (old : Int32) (n : Int32) (x : (Nat → Int32) × (Nat → Nat → Int32)) : Int32 × (Nat → Int32) × (Nat → Nat → Int32) := if old = 0 then (n, x.1, x.2) else if x.1 3 = 0 then (n, x.1, x.2) else (n, upd (upd x.1 2 (1 : Int32)) 3 (0 : Int32), x.2)
theorem m_move {c : Int32} {g f F : Nat → Int32} {a : Nat → Nat → Int32} (h : Si c g f F) (hA : OkA a) {y z : Nat} (hy : y < 8) (hz : z < 8) : Rel c g (f, xSetOperand f a (nI y) (xOperand f a (nI z))) (F, rSet F a (nI y) (rGet F a (nI z))) := by
  have e1 : xOperand f a (nI z) = rGet F a (nI z) := by rw [m_get f F, j7 hz]
  have hb : By (xOperand f a (nI z)) := by_get hA _
  have e2 := m_set f F a (nI y) _ hb
  rw [j7 hy] at e2
  rw [← e1]
  exact ⟨e2, h, e2 ▸ ok_set (f := f) hA (nI y) hb⟩
theorem m_one {c : Int32} {g f F : Nat → Int32} {a : Nat → Nat → Int32} (h : Si c g f F) (hA : OkA a) (h3 : F 3 = 0) (h17 : F 17 = c) : ∃ x : (Nat → Int32) × (Nat → Nat → Int32), xExecute f a = xPend (f 3) (rOne F a).1 x ∧ Rel c g x (rOne F a).2 ∧ Cn (rOne F a).1 := by
  obtain ⟨n1, n2⟩ := m_next (a := a) h
  have hb : By (xFetch f a).1 := by_read hA _
  have g3 : (rNext F a).2 3 = 0 := h3
  have g17 : (rNext F a).2 17 = c := h17
  unfold xExecute rOne
  generalize xFetch f a = X at n1 n2 hb ⊢
  generalize rNext F a = Y at n1 n2 g3 g17 ⊢
  obtain ⟨w, f1⟩ := X
  obtain ⟨w', F1⟩ := Y
  dsimp only at n1 n2 hb g3 g17
  subst n1
  dsimp only
  obtain ⟨n, hn, rfl⟩ := hb
  obtain ⟨q1, q2⟩ := m_q0 ⟨n, hn⟩
  have q1 : nI n >>> ((6 : Int32) &&& 31) = nI (n / 64) := q1
  have q2 : (nI n &&& (255 : Int32)).toNatClampNeg = n := q2
  rw [q1, q2]
  have hk : n / 64 = 0 ∨ n / 64 = 1 ∨ n / 64 = 2 ∨ n / 64 = 3 := by omega
  have hk : ∃ y z : Nat, (y < 8 ∧ z < 8) ∧ (n = 8 * y + z ∨ n = 64 + 8 * y + z ∨ n = 128 + 8 * y + z ∨ n = 192 + 8 * y + z) := ⟨n / 8 % 8, n % 8, ⟨by omega, by omega⟩, by omega⟩
  obtain ⟨y, z, ⟨hy, hz⟩, hk⟩ := hk
  obtain ⟨⟨m1, m2⟩, ⟨m3, m4⟩, m5, m6, m7, m8⟩ := m_mcut0 ⟨y, hy⟩ ⟨z, hz⟩
  rcases hk with rfl | rfl | rfl | rfl
  · rw [show (8 * y + z) / 64 = 0 from by omega]
    obtain ⟨⟨c1, c2⟩, _, _⟩ := m_cut hy hz
    obtain ⟨r1, r2⟩ := m_lowX n2 hA hy hz
    have cn : Cn (rLow F1 a (nI y) (nI z)).1 := by rw [r2]; exact cn_low hy hz
    have t : xSt (8 * y + z) = lowN y z := m_lowT ⟨y, hy⟩ ⟨z, hz⟩
    rw [if_pos (show nI 0 = (0 : Int32) by decide), if_neg m7, if_neg (show ¬ nI 0 = (1 : Int32) by decide), if_neg (show ¬ nI 0 = (2 : Int32) by decide), if_pos (show nI 0 = (0 : Int32) by decide), c1, c2, t, ← r2]
    exact ⟨xExecuteLow f1 a (nI (8 * y + z)), rfl, r1, cn⟩
  · rw [show (64 + 8 * y + z) / 64 = 1 from by omega]
    have m1 : nI (64 + 8 * y + z) &&& (7 : Int32) = nI z := m1
    have m2 : (nI (64 + 8 * y + z) >>> ((3 : Int32) &&& 31)) &&& (7 : Int32) = nI y := m2
    have t : xSt (64 + 8 * y + z) = if nI y = (6 : Int32) then (7 : Int32) else if nI z = (6 : Int32) then (7 : Int32) else (5 : Int32) := m_movT ⟨y, hy⟩ ⟨z, hz⟩
    have q := m_move n2 hA hy hz
    rw [if_neg (show ¬ nI 1 = (0 : Int32) by decide), if_pos (show nI 1 = (1 : Int32) by decide), t]
    unfold xExecuteMove
    rw [m1, m2]
    have k1 : nI 1 = (1 : Int32) := by decide
    by_cases z6 : nI z = (6 : Int32)
    · by_cases y6 : nI y = (6 : Int32)
      · simp only [if_pos z6, if_pos y6, if_pos (m5.mpr ⟨y6, z6⟩)]
        exact ⟨(upd f1 4 (1 : Int32), a), rfl, ⟨rfl, n2.u4 Bt.one, hA⟩, cn_lit (m := 7) (by decide) (by decide)⟩
      · simp only [if_pos z6, if_neg y6, if_neg (fun w => y6 (m5.mp w).1), if_pos k1]
        exact ⟨(f1, xSetOperand f1 a (nI y) (xOperand f1 a (nI z))), rfl, q, cn_lit (m := 7) (by decide) (by decide)⟩
    · by_cases y6 : nI y = (6 : Int32)
      · simp only [if_neg z6, if_pos y6, if_neg (fun w => z6 (m5.mp w).2), if_pos k1]
        exact ⟨(f1, xSetOperand f1 a (nI y) (xOperand f1 a (nI z))), rfl, q, cn_lit (m := 7) (by decide) (by decide)⟩
      · simp only [if_neg z6, if_neg y6, if_neg (fun w => z6 (m5.mp w).2), if_pos k1]
        exact ⟨(f1, xSetOperand f1 a (nI y) (xOperand f1 a (nI z))), rfl, q, cn_lit (m := 5) (by decide) (by decide)⟩
  · rw [show (128 + 8 * y + z) / 64 = 2 from by omega]
    have m3 : nI (128 + 8 * y + z) &&& (7 : Int32) = nI z := m3
    have m4 : (nI (128 + 8 * y + z) >>> ((3 : Int32) &&& 31)) &&& (7 : Int32) = nI y := m4
    have t : xSt (128 + 8 * y + z) = _ := m_aluT ⟨y, hy⟩ ⟨z, hz⟩
    have t : xSt (128 + 8 * y + z) = if nI z = (6 : Int32) then (7 : Int32) else (4 : Int32) := t
    have e1 : xOperand f1 a (nI (128 + 8 * y + z)) = rGet F1 a (nI z) := by rw [m_get f1 F1, m3]
    have hb : By (xOperand f1 a (nI (128 + 8 * y + z))) := by_get hA _
    have q := m_calc n2 hA (nI (128 + 8 * y + z) >>> ((3 : Int32) &&& 31)) hb
    rw [m4, e1] at q
    rw [if_neg (show ¬ nI 2 = (0 : Int32) by decide), if_neg (show ¬ nI 2 = (1 : Int32) by decide), if_pos (show nI 2 = (2 : Int32) by decide), if_neg m6, if_neg (show ¬ nI 2 = (1 : Int32) by decide), if_pos (show nI 2 = (2 : Int32) by decide), m3, m4, t, e1]
    by_cases z6 : nI z = (6 : Int32)
    · rw [if_pos z6, if_pos z6]
      exact ⟨_, rfl, q, cn_lit (m := 7) (by decide) (by decide)⟩
    · rw [if_neg z6, if_neg z6]
      exact ⟨_, rfl, q, cn_lit (m := 4) (by decide) (by decide)⟩
  · rw [show (192 + 8 * y + z) / 64 = 3 from by omega]
    obtain ⟨c1, c2⟩ := m_hcut hy hz
    obtain ⟨r1, r2⟩ := m_highX n2 hA g3 g17 hy hz
    have cn : Cn (rHigh F1 a (nI y) (nI z)).1 := by rw [← r2]; exact cn_high hy hz (m_hx f1 a _)
    have t : xSt (192 + 8 * y + z) = highN y z := m_highT ⟨y, hy⟩ ⟨z, hz⟩
    rw [if_neg (show ¬ nI 3 = (0 : Int32) by decide), if_neg (show ¬ nI 3 = (1 : Int32) by decide), if_neg (show ¬ nI 3 = (2 : Int32) by decide), if_neg m8, if_neg (show ¬ nI 3 = (1 : Int32) by decide), if_neg (show ¬ nI 3 = (2 : Int32) by decide), if_neg (show ¬ nI 3 = (0 : Int32) by decide), c1, c2, t, r2]
    exact ⟨(xExecuteHigh f1 a (nI (192 + 8 * y + z))).2, rfl, r1, cn⟩
