/-! INR, DCR -/
theorem m_inc {c : Int32} {g f F : Nat → Int32} (b : Nat → Nat → Int32) (h : Si c g f F) {v : Int32} (hv : By v) {H X : Int32} (hh : Bt H) (eX : X = H <<< ((4 : Int32) &&& 31)) : Si c g (upd f 11 ((xFlagsOf v ||| X) ||| ((f 11) &&& (1 : Int32)))) (rSigns (upd F 14 H) b v) := by
  have hc : (f 11) &&& (1 : Int32) = F 16 := by rw [h.s11]; exact m_c1 h.ok
  have q := m_res (a := b) h hv hh h.ok.2.2.2.2 eX hc
  have e : upd (upd F 14 H) 16 (F 16) = upd F 14 H := by
    funext k
    by_cases e : k = 16
    · subst e; rfl
    · rw [m_un _ _ e]
  rw [e] at q
  exact q
theorem j7 {j : Nat} (hj : j < 8) : nI j &&& (7 : Int32) = nI j := by
  rw [pk_andN (by omega) 3 (by decide), Nat.mod_eq_of_lt hj]
theorem m_count1 {c : Int32} {g f F : Nat → Int32} {a : Nat → Nat → Int32} (h : Si c g f F) (hA : OkA a) {j : Nat} (hj : j < 8) :
    Rel c g ((xIncrement f a (xOperand f a (nI j))).2, xSetOperand (xIncrement f a (xOperand f a (nI j))).2 a (nI j) (xIncrement f a (xOperand f a (nI j))).1) (rCount F a (nI j) (1 : Int32)) := by
  have e1 : xOperand f a (nI j) = rGet F a (nI j) := by rw [m_get f F, j7 hj]
  rw [e1]
  unfold xIncrement rCount
  rw [if_neg (show ¬ (1 : Int32) ≤ 0 by decide)]
  by_cases q : (((rGet F a (nI j)) + (1 : Int32)) &&& (255 : Int32)) &&& (15 : Int32) = 0
  · rw [if_pos q, if_pos q]
    refine ⟨?_, m_inc a h (By.of _) Bt.one (by decide), ?_⟩
    · show xSetOperand _ a (nI j) _ = rSet F a (nI j) _
      rw [m_set _ F a _ _ (By.of _), j7 hj]
    · show OkA (rSet F a (nI j) _)
      rw [← j7 hj, ← m_set f F a _ _ (By.of _)]
      exact ok_set hA _ (By.of _)
  · rw [if_neg q, if_neg q]
    refine ⟨?_, m_inc a h (By.of _) Bt.zero (by decide), ?_⟩
    · show xSetOperand _ a (nI j) _ = rSet F a (nI j) _
      rw [m_set _ F a _ _ (By.of _), j7 hj]
    · show OkA (rSet F a (nI j) _)
      rw [← j7 hj, ← m_set f F a _ _ (By.of _)]
      exact ok_set hA _ (By.of _)
theorem m_count2 {c : Int32} {g f F : Nat → Int32} {a : Nat → Nat → Int32} (h : Si c g f F) (hA : OkA a) {j : Nat} (hj : j < 8) :
    Rel c g ((xDecrement f a (xOperand f a (nI j))).2, xSetOperand (xDecrement f a (xOperand f a (nI j))).2 a (nI j) (xDecrement f a (xOperand f a (nI j))).1) (rCount F a (nI j) (-1 : Int32)) := by
  have e1 : xOperand f a (nI j) = rGet F a (nI j) := by rw [m_get f F, j7 hj]
  rw [e1]
  unfold xDecrement rCount
  rw [if_pos (show (-1 : Int32) ≤ 0 by decide), show rGet F a (nI j) + (-1 : Int32) = rGet F a (nI j) - (1 : Int32) from (Int32.sub_eq_add_neg _ _).symm]
  by_cases q : (((rGet F a (nI j)) - (1 : Int32)) &&& (255 : Int32)) &&& (15 : Int32) = (15 : Int32)
  · rw [if_pos q, if_pos q]
    refine ⟨?_, m_inc a h (By.of _) Bt.zero (by decide), ?_⟩
    · show xSetOperand _ a (nI j) _ = rSet F a (nI j) _
      rw [m_set _ F a _ _ (By.of _), j7 hj]
    · show OkA (rSet F a (nI j) _)
      rw [← j7 hj, ← m_set f F a _ _ (By.of _)]
      exact ok_set hA _ (By.of _)
  · rw [if_neg q, if_neg q]
    refine ⟨?_, m_inc a h (By.of _) Bt.one (by decide), ?_⟩
    · show xSetOperand _ a (nI j) _ = rSet F a (nI j) _
      rw [m_set _ F a _ _ (By.of _), j7 hj]
    · show OkA (rSet F a (nI j) _)
      rw [← j7 hj, ← m_set f F a _ _ (By.of _)]
      exact ok_set hA _ (By.of _)
/-! DAA -/
theorem m_bits0 : ∀ a b c d e : Fin 2, ((((((((nI a.val <<< ((7 : Int32) &&& 31)) ||| (nI b.val <<< ((6 : Int32) &&& 31))) ||| (nI c.val <<< ((4 : Int32) &&& 31))) ||| (nI d.val <<< ((2 : Int32) &&& 31))) ||| (2 : Int32)) ||| nI e.val) &&& (64 : Int32) = 0 ↔ nI b.val = 0) ∧ (((((((nI a.val <<< ((7 : Int32) &&& 31)) ||| (nI b.val <<< ((6 : Int32) &&& 31))) ||| (nI c.val <<< ((4 : Int32) &&& 31))) ||| (nI d.val <<< ((2 : Int32) &&& 31))) ||| (2 : Int32)) ||| nI e.val) &&& (128 : Int32) = 0 ↔ nI a.val = 0)) ∧ ((((((((nI a.val <<< ((7 : Int32) &&& 31)) ||| (nI b.val <<< ((6 : Int32) &&& 31))) ||| (nI c.val <<< ((4 : Int32) &&& 31))) ||| (nI d.val <<< ((2 : Int32) &&& 31))) ||| (2 : Int32)) ||| nI e.val) &&& (16 : Int32) = 0 ↔ nI c.val = 0) ∧ (((((((nI a.val <<< ((7 : Int32) &&& 31)) ||| (nI b.val <<< ((6 : Int32) &&& 31))) ||| (nI c.val <<< ((4 : Int32) &&& 31))) ||| (nI d.val <<< ((2 : Int32) &&& 31))) ||| (2 : Int32)) ||| nI e.val) &&& (4 : Int32) = 0 ↔ nI d.val = 0)) := by decide +kernel
theorem m_bits {F : Nat → Int32} (h : OkB F) : ((rFl F &&& (64 : Int32) = 0 ↔ F 13 = 0) ∧ (rFl F &&& (128 : Int32) = 0 ↔ F 12 = 0)) ∧ ((rFl F &&& (16 : Int32) = 0 ↔ F 14 = 0) ∧ (rFl F &&& (4 : Int32) = 0 ↔ F 15 = 0)) := by
  obtain ⟨h1, h2, h3, h4, h5⟩ := h
  obtain ⟨a, ea⟩ := h1.nat
  obtain ⟨b, eb⟩ := h2.nat
  obtain ⟨c, ec⟩ := h3.nat
  obtain ⟨d, ed⟩ := h4.nat
  obtain ⟨e, ee⟩ := h5.nat
  unfold rFl
  rw [ea, eb, ec, ed, ee]
  exact m_bits0 a b c d e
theorem Bt.one_iff {x : Int32} (h : Bt x) : x = 1 ↔ ¬ x = 0 := by
  rcases h with rfl | rfl
  · exact ⟨fun q => absurd q (by decide), fun q => absurd rfl q⟩
  · exact ⟨fun _ => by decide, fun _ => rfl⟩
/-- the class's flags word behind an adjustment: half and carry in one -/
theorem m_daa {c : Int32} {g f F : Nat → Int32} (b : Nat → Nat → Int32) (h : Si c g f F) {v H C X : Int32} (hv : By v) (hh : Bt H) (hc : Bt C) (eX : X = (H <<< ((4 : Int32) &&& 31)) ||| C) : Si c g (upd f 11 (xFlagsOf v ||| X)) (rSigns (upd (upd F 14 H) 16 C) b v) := by
  have q := m_res (a := b) h hv hh hc rfl rfl
  rw [Int32.or_assoc, ← eX] at q
  exact q
theorem m_daaL {c : Int32} {g f F : Nat → Int32} {a : Nat → Nat → Int32} (h : Si c g f F) (hA : OkA a) {k : Nat} {V V' H C X : Int32} (eV : V' = V) (hv : By V) (hh : Bt H) (hc : Bt C) (eX : X = (H <<< ((4 : Int32) &&& 31)) ||| C) :
    Rel c g (upd f 11 (xFlagsOf ((upd (a 2) k V) k) ||| X), ua a 2 (upd (a 2) k V)) (rSigns (upd (upd F 14 H) 16 C) (ua a 2 (upd (a 2) k V')) ((upd (a 2) k V') k), ua a 2 (upd (a 2) k V')) := by
  subst eV
  rw [m_us]
  exact ⟨rfl, m_daa a h hv hh hc eX, hA.reg _ hv⟩
theorem m_adj {c : Int32} {g f F : Nat → Int32} {a : Nat → Nat → Int32} (h : Si c g f F) (hA : OkA a) : Rel c g (xAdjustDecimal f a) (rAdjust F a) := by
  have e4 : ((f 11) &&& (1 : Int32) = 0) ↔ ¬ F 16 = (1 : Int32) := by
    rw [h.s11, m_c1 h.ok, h.ok.2.2.2.2.one_iff]; exact Decidable.not_not.symm
  have e5 : ((f 11) &&& (16 : Int32) = 0) ↔ ¬ F 14 = (1 : Int32) := by
    rw [h.s11, (m_bits h.ok).2.1, h.ok.2.2.1.one_iff]; exact Decidable.not_not.symm
  unfold xAdjustDecimal rAdjust
  by_cases q1 : (9 : Int32) < (((a 2) (7 : Int32).toNatClampNeg) &&& (15 : Int32))
  all_goals by_cases q3 : (153 : Int32) < ((a 2) (7 : Int32).toNatClampNeg)
  all_goals by_cases q4 : F 16 = (1 : Int32)
  all_goals by_cases q5 : F 14 = (1 : Int32)
  all_goals by_cases q2 : ((((a 2) (7 : Int32).toNatClampNeg) &&& (15 : Int32)) + (6 : Int32)) ≤ (15 : Int32)
  all_goals by_cases q6 : ((((a 2) (7 : Int32).toNatClampNeg) &&& (15 : Int32)) + (0 : Int32)) ≤ (15 : Int32)
  · rw [if_pos q1, if_pos q2, if_pos q3, if_pos q1, if_pos q3, if_pos q2]
    exact m_daaL h hA (by rw [Int32.add_assoc]) (By.of _) Bt.zero Bt.one (by decide)
  · rw [if_pos q1, if_pos q2, if_pos q3, if_pos q1, if_pos q3, if_pos q2]
    exact m_daaL h hA (by rw [Int32.add_assoc]) (By.of _) Bt.zero Bt.one (by decide)
  · rw [if_pos q1, if_neg q2, if_pos q3, if_pos q1, if_pos q3, if_neg q2]
    exact m_daaL h hA (by rw [Int32.add_assoc]) (By.of _) Bt.one Bt.one (by decide)
  · rw [if_pos q1, if_neg q2, if_pos q3, if_pos q1, if_pos q3, if_neg q2]
    exact m_daaL h hA (by rw [Int32.add_assoc]) (By.of _) Bt.one Bt.one (by decide)
  · rw [if_pos q1, if_pos q2, if_pos q3, if_pos q1, if_pos q3, if_pos q2]
    exact m_daaL h hA (by rw [Int32.add_assoc]) (By.of _) Bt.zero Bt.one (by decide)
  · rw [if_pos q1, if_pos q2, if_pos q3, if_pos q1, if_pos q3, if_pos q2]
    exact m_daaL h hA (by rw [Int32.add_assoc]) (By.of _) Bt.zero Bt.one (by decide)
  · rw [if_pos q1, if_neg q2, if_pos q3, if_pos q1, if_pos q3, if_neg q2]
    exact m_daaL h hA (by rw [Int32.add_assoc]) (By.of _) Bt.one Bt.one (by decide)
  · rw [if_pos q1, if_neg q2, if_pos q3, if_pos q1, if_pos q3, if_neg q2]
    exact m_daaL h hA (by rw [Int32.add_assoc]) (By.of _) Bt.one Bt.one (by decide)
  · rw [if_pos q1, if_pos q2, if_pos q3, if_pos q1, if_pos q3, if_pos q2]
    exact m_daaL h hA (by rw [Int32.add_assoc]) (By.of _) Bt.zero Bt.one (by decide)
  · rw [if_pos q1, if_pos q2, if_pos q3, if_pos q1, if_pos q3, if_pos q2]
    exact m_daaL h hA (by rw [Int32.add_assoc]) (By.of _) Bt.zero Bt.one (by decide)
  · rw [if_pos q1, if_neg q2, if_pos q3, if_pos q1, if_pos q3, if_neg q2]
    exact m_daaL h hA (by rw [Int32.add_assoc]) (By.of _) Bt.one Bt.one (by decide)
  · rw [if_pos q1, if_neg q2, if_pos q3, if_pos q1, if_pos q3, if_neg q2]
    exact m_daaL h hA (by rw [Int32.add_assoc]) (By.of _) Bt.one Bt.one (by decide)
  · rw [if_pos q1, if_pos q2, if_pos q3, if_pos q1, if_pos q3, if_pos q2]
    exact m_daaL h hA (by rw [Int32.add_assoc]) (By.of _) Bt.zero Bt.one (by decide)
  · rw [if_pos q1, if_pos q2, if_pos q3, if_pos q1, if_pos q3, if_pos q2]
    exact m_daaL h hA (by rw [Int32.add_assoc]) (By.of _) Bt.zero Bt.one (by decide)
  · rw [if_pos q1, if_neg q2, if_pos q3, if_pos q1, if_pos q3, if_neg q2]
    exact m_daaL h hA (by rw [Int32.add_assoc]) (By.of _) Bt.one Bt.one (by decide)
  · rw [if_pos q1, if_neg q2, if_pos q3, if_pos q1, if_pos q3, if_neg q2]
    exact m_daaL h hA (by rw [Int32.add_assoc]) (By.of _) Bt.one Bt.one (by decide)
  · rw [if_pos q1, if_pos q2, if_neg q3, if_neg (fun q => e4.mp q q4), if_pos q1, if_neg q3, if_pos q4, if_pos q2]
    exact m_daaL h hA (by rw [Int32.add_assoc]) (By.of _) Bt.zero Bt.one (by decide)
  · rw [if_pos q1, if_pos q2, if_neg q3, if_neg (fun q => e4.mp q q4), if_pos q1, if_neg q3, if_pos q4, if_pos q2]
    exact m_daaL h hA (by rw [Int32.add_assoc]) (By.of _) Bt.zero Bt.one (by decide)
  · rw [if_pos q1, if_neg q2, if_neg q3, if_neg (fun q => e4.mp q q4), if_pos q1, if_neg q3, if_pos q4, if_neg q2]
    exact m_daaL h hA (by rw [Int32.add_assoc]) (By.of _) Bt.one Bt.one (by decide)
  · rw [if_pos q1, if_neg q2, if_neg q3, if_neg (fun q => e4.mp q q4), if_pos q1, if_neg q3, if_pos q4, if_neg q2]
    exact m_daaL h hA (by rw [Int32.add_assoc]) (By.of _) Bt.one Bt.one (by decide)
  · rw [if_pos q1, if_pos q2, if_neg q3, if_neg (fun q => e4.mp q q4), if_pos q1, if_neg q3, if_pos q4, if_pos q2]
    exact m_daaL h hA (by rw [Int32.add_assoc]) (By.of _) Bt.zero Bt.one (by decide)
  · rw [if_pos q1, if_pos q2, if_neg q3, if_neg (fun q => e4.mp q q4), if_pos q1, if_neg q3, if_pos q4, if_pos q2]
    exact m_daaL h hA (by rw [Int32.add_assoc]) (By.of _) Bt.zero Bt.one (by decide)
  · rw [if_pos q1, if_neg q2, if_neg q3, if_neg (fun q => e4.mp q q4), if_pos q1, if_neg q3, if_pos q4, if_neg q2]
    exact m_daaL h hA (by rw [Int32.add_assoc]) (By.of _) Bt.one Bt.one (by decide)
  · rw [if_pos q1, if_neg q2, if_neg q3, if_neg (fun q => e4.mp q q4), if_pos q1, if_neg q3, if_pos q4, if_neg q2]
    exact m_daaL h hA (by rw [Int32.add_assoc]) (By.of _) Bt.one Bt.one (by decide)
  · rw [if_pos q1, if_pos q2, if_neg q3, if_pos (e4.mpr q4), if_pos q1, if_neg q3, if_neg q4, if_pos q2]
    exact m_daaL h hA (by rw [Int32.add_zero]) (By.of _) Bt.zero Bt.zero (by decide)
  · rw [if_pos q1, if_pos q2, if_neg q3, if_pos (e4.mpr q4), if_pos q1, if_neg q3, if_neg q4, if_pos q2]
    exact m_daaL h hA (by rw [Int32.add_zero]) (By.of _) Bt.zero Bt.zero (by decide)
  · rw [if_pos q1, if_neg q2, if_neg q3, if_pos (e4.mpr q4), if_pos q1, if_neg q3, if_neg q4, if_neg q2]
    exact m_daaL h hA (by rw [Int32.add_zero]) (By.of _) Bt.one Bt.zero (by decide)
  · rw [if_pos q1, if_neg q2, if_neg q3, if_pos (e4.mpr q4), if_pos q1, if_neg q3, if_neg q4, if_neg q2]
    exact m_daaL h hA (by rw [Int32.add_zero]) (By.of _) Bt.one Bt.zero (by decide)
  · rw [if_pos q1, if_pos q2, if_neg q3, if_pos (e4.mpr q4), if_pos q1, if_neg q3, if_neg q4, if_pos q2]
    exact m_daaL h hA (by rw [Int32.add_zero]) (By.of _) Bt.zero Bt.zero (by decide)
  · rw [if_pos q1, if_pos q2, if_neg q3, if_pos (e4.mpr q4), if_pos q1, if_neg q3, if_neg q4, if_pos q2]
    exact m_daaL h hA (by rw [Int32.add_zero]) (By.of _) Bt.zero Bt.zero (by decide)
  · rw [if_pos q1, if_neg q2, if_neg q3, if_pos (e4.mpr q4), if_pos q1, if_neg q3, if_neg q4, if_neg q2]
    exact m_daaL h hA (by rw [Int32.add_zero]) (By.of _) Bt.one Bt.zero (by decide)
  · rw [if_pos q1, if_neg q2, if_neg q3, if_pos (e4.mpr q4), if_pos q1, if_neg q3, if_neg q4, if_neg q2]
    exact m_daaL h hA (by rw [Int32.add_zero]) (By.of _) Bt.one Bt.zero (by decide)
  · rw [if_neg q1, if_neg (fun q => e5.mp q q5), if_pos q2, if_pos q3, if_neg q1, if_pos q5, if_pos q3, if_pos q2]
    exact m_daaL h hA (by rw [Int32.add_assoc]) (By.of _) Bt.zero Bt.one (by decide)
  · rw [if_neg q1, if_neg (fun q => e5.mp q q5), if_pos q2, if_pos q3, if_neg q1, if_pos q5, if_pos q3, if_pos q2]
    exact m_daaL h hA (by rw [Int32.add_assoc]) (By.of _) Bt.zero Bt.one (by decide)
  · rw [if_neg q1, if_neg (fun q => e5.mp q q5), if_neg q2, if_pos q3, if_neg q1, if_pos q5, if_pos q3, if_neg q2]
    exact m_daaL h hA (by rw [Int32.add_assoc]) (By.of _) Bt.one Bt.one (by decide)
  · rw [if_neg q1, if_neg (fun q => e5.mp q q5), if_neg q2, if_pos q3, if_neg q1, if_pos q5, if_pos q3, if_neg q2]
    exact m_daaL h hA (by rw [Int32.add_assoc]) (By.of _) Bt.one Bt.one (by decide)
  · rw [if_neg q1, if_pos (e5.mpr q5), if_pos q6, if_pos q3, if_neg q1, if_neg q5, if_pos q3, if_pos q6]
    exact m_daaL h hA (by rw [Int32.add_assoc]) (By.of _) Bt.zero Bt.one (by decide)
  · rw [if_neg q1, if_pos (e5.mpr q5), if_neg q6, if_pos q3, if_neg q1, if_neg q5, if_pos q3, if_neg q6]
    exact m_daaL h hA (by rw [Int32.add_assoc]) (By.of _) Bt.one Bt.one (by decide)
  · rw [if_neg q1, if_pos (e5.mpr q5), if_pos q6, if_pos q3, if_neg q1, if_neg q5, if_pos q3, if_pos q6]
    exact m_daaL h hA (by rw [Int32.add_assoc]) (By.of _) Bt.zero Bt.one (by decide)
  · rw [if_neg q1, if_pos (e5.mpr q5), if_neg q6, if_pos q3, if_neg q1, if_neg q5, if_pos q3, if_neg q6]
    exact m_daaL h hA (by rw [Int32.add_assoc]) (By.of _) Bt.one Bt.one (by decide)
  · rw [if_neg q1, if_neg (fun q => e5.mp q q5), if_pos q2, if_pos q3, if_neg q1, if_pos q5, if_pos q3, if_pos q2]
    exact m_daaL h hA (by rw [Int32.add_assoc]) (By.of _) Bt.zero Bt.one (by decide)
  · rw [if_neg q1, if_neg (fun q => e5.mp q q5), if_pos q2, if_pos q3, if_neg q1, if_pos q5, if_pos q3, if_pos q2]
    exact m_daaL h hA (by rw [Int32.add_assoc]) (By.of _) Bt.zero Bt.one (by decide)
  · rw [if_neg q1, if_neg (fun q => e5.mp q q5), if_neg q2, if_pos q3, if_neg q1, if_pos q5, if_pos q3, if_neg q2]
    exact m_daaL h hA (by rw [Int32.add_assoc]) (By.of _) Bt.one Bt.one (by decide)
  · rw [if_neg q1, if_neg (fun q => e5.mp q q5), if_neg q2, if_pos q3, if_neg q1, if_pos q5, if_pos q3, if_neg q2]
    exact m_daaL h hA (by rw [Int32.add_assoc]) (By.of _) Bt.one Bt.one (by decide)
  · rw [if_neg q1, if_pos (e5.mpr q5), if_pos q6, if_pos q3, if_neg q1, if_neg q5, if_pos q3, if_pos q6]
    exact m_daaL h hA (by rw [Int32.add_assoc]) (By.of _) Bt.zero Bt.one (by decide)
  · rw [if_neg q1, if_pos (e5.mpr q5), if_neg q6, if_pos q3, if_neg q1, if_neg q5, if_pos q3, if_neg q6]
    exact m_daaL h hA (by rw [Int32.add_assoc]) (By.of _) Bt.one Bt.one (by decide)
  · rw [if_neg q1, if_pos (e5.mpr q5), if_pos q6, if_pos q3, if_neg q1, if_neg q5, if_pos q3, if_pos q6]
    exact m_daaL h hA (by rw [Int32.add_assoc]) (By.of _) Bt.zero Bt.one (by decide)
  · rw [if_neg q1, if_pos (e5.mpr q5), if_neg q6, if_pos q3, if_neg q1, if_neg q5, if_pos q3, if_neg q6]
    exact m_daaL h hA (by rw [Int32.add_assoc]) (By.of _) Bt.one Bt.one (by decide)
  · rw [if_neg q1, if_neg (fun q => e5.mp q q5), if_pos q2, if_neg q3, if_neg (fun q => e4.mp q q4), if_neg q1, if_pos q5, if_neg q3, if_pos q4, if_pos q2]
    exact m_daaL h hA (by rw [Int32.add_assoc]) (By.of _) Bt.zero Bt.one (by decide)
  · rw [if_neg q1, if_neg (fun q => e5.mp q q5), if_pos q2, if_neg q3, if_neg (fun q => e4.mp q q4), if_neg q1, if_pos q5, if_neg q3, if_pos q4, if_pos q2]
    exact m_daaL h hA (by rw [Int32.add_assoc]) (By.of _) Bt.zero Bt.one (by decide)
  · rw [if_neg q1, if_neg (fun q => e5.mp q q5), if_neg q2, if_neg q3, if_neg (fun q => e4.mp q q4), if_neg q1, if_pos q5, if_neg q3, if_pos q4, if_neg q2]
    exact m_daaL h hA (by rw [Int32.add_assoc]) (By.of _) Bt.one Bt.one (by decide)
  · rw [if_neg q1, if_neg (fun q => e5.mp q q5), if_neg q2, if_neg q3, if_neg (fun q => e4.mp q q4), if_neg q1, if_pos q5, if_neg q3, if_pos q4, if_neg q2]
    exact m_daaL h hA (by rw [Int32.add_assoc]) (By.of _) Bt.one Bt.one (by decide)
  · rw [if_neg q1, if_pos (e5.mpr q5), if_pos q6, if_neg q3, if_neg (fun q => e4.mp q q4), if_neg q1, if_neg q5, if_neg q3, if_pos q4, if_pos q6]
    exact m_daaL h hA (by rw [Int32.add_assoc]) (By.of _) Bt.zero Bt.one (by decide)
  · rw [if_neg q1, if_pos (e5.mpr q5), if_neg q6, if_neg q3, if_neg (fun q => e4.mp q q4), if_neg q1, if_neg q5, if_neg q3, if_pos q4, if_neg q6]
    exact m_daaL h hA (by rw [Int32.add_assoc]) (By.of _) Bt.one Bt.one (by decide)
  · rw [if_neg q1, if_pos (e5.mpr q5), if_pos q6, if_neg q3, if_neg (fun q => e4.mp q q4), if_neg q1, if_neg q5, if_neg q3, if_pos q4, if_pos q6]
    exact m_daaL h hA (by rw [Int32.add_assoc]) (By.of _) Bt.zero Bt.one (by decide)
  · rw [if_neg q1, if_pos (e5.mpr q5), if_neg q6, if_neg q3, if_neg (fun q => e4.mp q q4), if_neg q1, if_neg q5, if_neg q3, if_pos q4, if_neg q6]
    exact m_daaL h hA (by rw [Int32.add_assoc]) (By.of _) Bt.one Bt.one (by decide)
  · rw [if_neg q1, if_neg (fun q => e5.mp q q5), if_pos q2, if_neg q3, if_pos (e4.mpr q4), if_neg q1, if_pos q5, if_neg q3, if_neg q4, if_pos q2]
    exact m_daaL h hA (by rw [Int32.add_zero]) (By.of _) Bt.zero Bt.zero (by decide)
  · rw [if_neg q1, if_neg (fun q => e5.mp q q5), if_pos q2, if_neg q3, if_pos (e4.mpr q4), if_neg q1, if_pos q5, if_neg q3, if_neg q4, if_pos q2]
    exact m_daaL h hA (by rw [Int32.add_zero]) (By.of _) Bt.zero Bt.zero (by decide)
  · rw [if_neg q1, if_neg (fun q => e5.mp q q5), if_neg q2, if_neg q3, if_pos (e4.mpr q4), if_neg q1, if_pos q5, if_neg q3, if_neg q4, if_neg q2]
    exact m_daaL h hA (by rw [Int32.add_zero]) (By.of _) Bt.one Bt.zero (by decide)
  · rw [if_neg q1, if_neg (fun q => e5.mp q q5), if_neg q2, if_neg q3, if_pos (e4.mpr q4), if_neg q1, if_pos q5, if_neg q3, if_neg q4, if_neg q2]
    exact m_daaL h hA (by rw [Int32.add_zero]) (By.of _) Bt.one Bt.zero (by decide)
  · rw [if_neg q1, if_pos (e5.mpr q5), if_pos q6, if_neg q3, if_pos (e4.mpr q4), if_neg q1, if_neg q5, if_neg q3, if_neg q4, if_pos q6]
    exact m_daaL h hA (by rw [Int32.add_zero]) (By.of _) Bt.zero Bt.zero (by decide)
  · rw [if_neg q1, if_pos (e5.mpr q5), if_neg q6, if_neg q3, if_pos (e4.mpr q4), if_neg q1, if_neg q5, if_neg q3, if_neg q4, if_neg q6]
    exact m_daaL h hA (by rw [Int32.add_zero]) (By.of _) Bt.one Bt.zero (by decide)
  · rw [if_neg q1, if_pos (e5.mpr q5), if_pos q6, if_neg q3, if_pos (e4.mpr q4), if_neg q1, if_neg q5, if_neg q3, if_neg q4, if_pos q6]
    exact m_daaL h hA (by rw [Int32.add_zero]) (By.of _) Bt.zero Bt.zero (by decide)
  · rw [if_neg q1, if_pos (e5.mpr q5), if_neg q6, if_neg q3, if_pos (e4.mpr q4), if_neg q1, if_neg q5, if_neg q3, if_neg q4, if_neg q6]
    exact m_daaL h hA (by rw [Int32.add_zero]) (By.of _) Bt.one Bt.zero (by decide)
