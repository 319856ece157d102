/-! the frame behind what was worked -/
def xFin (g f : Nat → Int32) (a : Nat → Nat → Int32) (n : Int32) : Int32 × (Nat → Int32) × (Nat → Int32) × (Nat → Nat → Int32) :=
  (match xPass g n with
  | (r_4, g_4) => if r_4 = 0 then (n, g_4, f, a)
    else (match xEndFrame f a with
      | (r_6, f7_6) => if r_6 = 0 then (n, g_4, upd f 7 f7_6, a)
        else (match xResetParts g_4 (upd f 7 f7_6) a with
          | (g_8, f_8, a_8) => (n, g_8, f_8, a_8))))
def rFin (f_1 : Nat → Int32) (a_1 : Nat → Nat → Int32) (r_1 : Int32) : Int32 × (Nat → Int32) × (Nat → Nat → Int32) :=
  if (16667 : Int32) ≤ (f_1 8) then if ((f_1 8) + r_1) < (33333 : Int32) then (r_1, upd f_1 8 ((f_1 8) + r_1), a_1)
      else if (f_1 7) + (1 : Int32) = (16 : Int32) then (match rClear (upd (upd (upd (upd (upd f_1 8 ((f_1 8) + r_1)) 8 (((f_1 8) + r_1) - (33333 : Int32))) 9 ((f_1 9) + (1 : Int32))) 7 ((f_1 7) + (1 : Int32))) 10 (2 : Int32)) a_1 with
          | (f_5, a_5) => (r_1, f_5, a_5))
        else (r_1, upd (upd (upd (upd (upd f_1 8 ((f_1 8) + r_1)) 8 (((f_1 8) + r_1) - (33333 : Int32))) 9 ((f_1 9) + (1 : Int32))) 7 ((f_1 7) + (1 : Int32))) 10 (2 : Int32), a_1)
    else if ((f_1 8) + r_1) < (16667 : Int32) then if ((f_1 8) + r_1) < (33333 : Int32) then (r_1, upd f_1 8 ((f_1 8) + r_1), a_1)
        else if (f_1 7) + (1 : Int32) = (16 : Int32) then (match rClear (upd (upd (upd (upd (upd f_1 8 ((f_1 8) + r_1)) 8 (((f_1 8) + r_1) - (33333 : Int32))) 9 ((f_1 9) + (1 : Int32))) 7 ((f_1 7) + (1 : Int32))) 10 (2 : Int32)) a_1 with
            | (f_9, a_9) => (r_1, f_9, a_9))
          else (r_1, upd (upd (upd (upd (upd f_1 8 ((f_1 8) + r_1)) 8 (((f_1 8) + r_1) - (33333 : Int32))) 9 ((f_1 9) + (1 : Int32))) 7 ((f_1 7) + (1 : Int32))) 10 (2 : Int32), a_1)
      else if ((f_1 8) + r_1) < (33333 : Int32) then (r_1, upd (upd f_1 8 ((f_1 8) + r_1)) 10 (1 : Int32), a_1)
        else if (f_1 7) + (1 : Int32) = (16 : Int32) then (match rClear (upd (upd (upd (upd (upd (upd f_1 8 ((f_1 8) + r_1)) 10 (1 : Int32)) 8 (((f_1 8) + r_1) - (33333 : Int32))) 9 ((f_1 9) + (1 : Int32))) 7 ((f_1 7) + (1 : Int32))) 10 (2 : Int32)) a_1 with
            | (f_12, a_12) => (r_1, f_12, a_12))
          else (r_1, upd (upd (upd (upd (upd (upd f_1 8 ((f_1 8) + r_1)) 10 (1 : Int32)) 8 (((f_1 8) + r_1) - (33333 : Int32))) 9 ((f_1 9) + (1 : Int32))) 7 ((f_1 7) + (1 : Int32))) 10 (2 : Int32), a_1)
theorem rStep_eq (F : Nat → Int32) (a : Nat → Nat → Int32) : rStep F a = rFin (rWorked (upd F 11 (0 : Int32)) a).2.1 (rWorked (upd F 11 (0 : Int32)) a).2.2 (rWorked (upd F 11 (0 : Int32)) a).1 := by
  unfold rStep rFin
  generalize rWorked (upd F 11 (0 : Int32)) a = R
  obtain ⟨n, F1, a1⟩ := R
  rfl
theorem xAdv_eq (g f : Nat → Int32) (a : Nat → Nat → Int32) (p : Int32) : xAdvance g f a p = if f 2 = 0 then (if f 4 = 0 then xFin g (xExecute f a).2.1 (xExecute f a).2.2 (xExecute f a).1 else xFin g f a (if xUntil g < p then xUntil g else p)) else if g 10 = 0 then (if f 4 = 0 then xFin g (xExecute f a).2.1 (xExecute f a).2.2 (xExecute f a).1 else xFin g f a (if xUntil g < p then xUntil g else p)) else xFin (upd g 10 (0 : Int32)) (xTakeRequest f a (g 10)).2.1 (xTakeRequest f a (g 10)).2.2 (xTakeRequest f a (g 10)).1 := by
  unfold xAdvance xFin xTakeWaiting
  dsimp only
/-! all off and empty -/
theorem by_zeros : ∀ (n k : Nat) (r : Nat → Int32), (∀ i, By (r i)) → ∀ i, By (xZeros n k r i) := by
  intro n
  induction n with
  | zero => intro k r h; exact h
  | succ n ih => intro k r h; exact ih (k + 1) _ (by_upd h _ By.zero)
theorem m_clear {g f F : Nat → Int32} {a : Nat → Nat → Int32} (g8 : g 8 = F 8) (g9 : g 9 = F 9) (hs : St (F 8)) (hA : OkA a) : ∃ (g2 f2 F2 : Nat → Int32) (a2 : Nat → Nat → Int32), xResetParts g f a = (g2, f2, a2) ∧ rClear F a = (F2, a2) ∧ Mid g2 f2 F2 ∧ OkA a2 ∧ F2 11 = F 11 := by
  refine ⟨_, _, rClearF F a (xZeros 8 0 (a 2)), _, rfl, ?_, ?_, ?_, rfl⟩
  · refine Prod.ext rfl ?_
    show rClearA a (xZeros 8 0 (a 2)) = ua (ua a 2 (xZeros 8 0 (a 2))) 4 _
    unfold rClearA
    rw [m_aa]; rfl
  · refine ⟨⟨rfl, rfl, rfl, rfl, rfl, rfl, rfl, rfl, ?_⟩, ⟨g8, g9, rfl⟩, ⟨⟨0, by decide, rfl⟩, ⟨0, by decide, rfl⟩, hs, Or.inl rfl⟩, ⟨Or.inl rfl, Or.inl rfl, Or.inl rfl⟩, Or.inl rfl, Bt.of _, Bt.of _, Bt.of _, Bt.of _, Bt.of _⟩
    have q := m_psw (0 : Int32)
    rw [show ((0 : Int32) &&& (213 : Int32)) ||| (2 : Int32) = 2 from by decide] at q
    exact q.symm
  · exact ⟨hA.1, hA.2.1, by_zeros 8 0 _ hA.2.2.1, hA.2.2.2.1, by_upd (by_upd hA.2.2.2.2 _ By.zero) _ By.zero⟩
theorem l_half : (16667 : Int32) = nI 16667 := rfl
theorem l_full : (33333 : Int32) = nI 33333 := rfl
theorem l_16 : (16 : Int32) = nI 16 := rfl
theorem m_i1 {s : Nat} (h : s < 70000) : (16667 : Int32) ≤ nI s ↔ 16667 ≤ s := by rw [l_half]; exact nI_leI (a := 16667) (b := s) (by omega) (by omega)
theorem m_i2 {s : Nat} (h : s < 70000) : nI s < (33333 : Int32) ↔ s < 33333 := by rw [l_full]; exact nI_ltI (a := s) (b := 33333) (by omega) (by omega)
theorem m_i3 {s : Nat} (h : s < 70000) : nI s < (16667 : Int32) ↔ s < 16667 := by rw [l_half]; exact nI_ltI (a := s) (b := 16667) (by omega) (by omega)
theorem m_i4 {s : Nat} (h : s < 70000) : (33333 : Int32) ≤ nI s ↔ 33333 ≤ s := by rw [l_full]; exact nI_leI (a := 33333) (b := s) (by omega) (by omega)
theorem m_i5 {s : Nat} (h : s < 70000) : nI s < (16 : Int32) ↔ s < 16 := by rw [l_16]; exact nI_ltI (a := s) (b := 16) (by omega) (by omega)
theorem m_i6 {s : Nat} (h : s < 70000) : nI s = (16 : Int32) ↔ s = 16 := by rw [l_16]; exact nI_eq (a := s) (b := 16) (by omega) (by omega)
theorem m_i7 {s : Nat} (h : 33333 ≤ s) : nI s - (33333 : Int32) = nI (s - 33333) := by rw [l_full]; exact pk_sub (a := s) (b := 33333) h
theorem m_i9 {s : Nat} (h : 33333 ≤ s) (h2 : s < 66666) : ∃ d : Nat, d < 33333 ∧ nI s - (33333 : Int32) = nI d := ⟨s - 33333, by omega, m_i7 h⟩
theorem m_i8 (s : Nat) : nI s + (1 : Int32) = nI (s + 1) := nI_add s 1
theorem m_fin {g f F : Nat → Int32} {a : Nat → Nat → Int32} (h : Mid g f F) (hA : OkA a) {n : Int32} (hn : Cn n) : ∃ (g2 f2 F2 : Nat → Int32) (a2 : Nat → Nat → Int32), xFin g f a n = (n, g2, f2, a2) ∧ rFin F a n = (n, F2, a2) ∧ Mid g2 f2 F2 ∧ OkA a2 ∧ F2 11 = F 11 := by
  obtain ⟨m, hm1, hm2, rfl⟩ := hn
  obtain ⟨s, hs, e8⟩ := h.2.2.1.2.2.1
  obtain ⟨l, hl, e7⟩ := h.2.2.1.2.1
  have g8 : g 8 = nI s := h.2.1.1.trans e8
  have f7 : f 7 = nI l := h.1.2.2.2.2.2.2.2.1.trans e7
  have g9 : g 9 = F 9 := h.2.1.2.1
  have i1 : (16667 : Int32) ≤ nI s ↔ 16667 ≤ s := m_i1 (by omega)
  have i2 : nI (s + m) < (33333 : Int32) ↔ s + m < 33333 := m_i2 (by omega)
  have i3 : nI (s + m) < (16667 : Int32) ↔ s + m < 16667 := m_i3 (by omega)
  have i4 : (33333 : Int32) ≤ nI (s + m) ↔ 33333 ≤ s + m := m_i4 (by omega)
  have i5 : nI (l + 1) < (16 : Int32) ↔ l + 1 < 16 := m_i5 (by omega)
  have i6 : nI (l + 1) = (16 : Int32) ↔ l + 1 = 16 := m_i6 (by omega)
  have e1 : nI s + nI m = nI (s + m) := nI_add s m
  have e2 : nI l + (1 : Int32) = nI (l + 1) := m_i8 l
  unfold xFin rFin xPass
  rw [g8, e8, e7, e1, e2]
  by_cases q1 : 16667 ≤ s
  · rw [if_pos (i1.mpr q1), if_pos (i1.mpr q1)]
    by_cases q2 : s + m < 33333
    · rw [if_neg (fun z => absurd (i4.mp z) (by omega)), if_pos (i2.mpr q2)]
      dsimp only
      rw [if_pos (by decide)]
      exact ⟨_, _, _, _, rfl, rfl, h.st ⟨s + m, q2, rfl⟩, hA, rfl⟩
    · rw [if_pos (i4.mpr (by omega)), if_neg (fun z => q2 (i2.mp z))]
      dsimp only
      rw [if_neg (by decide)]
      obtain ⟨d, hd, e3⟩ := m_i9 (s := s + m) (by omega) (by omega)
      unfold xEndFrame
      rw [f7, e2, e3, m_uu, m_uu, g9]
      by_cases q3 : l + 1 = 16
      · rw [if_neg (fun z => absurd (i5.mp z) (by omega)), if_pos (i6.mpr q3)]
        dsimp only
        rw [if_neg (by decide)]
        obtain ⟨g2, f2, F2, a2, c1, c2, c3, c4, c5⟩ := m_clear (g := upd (upd (upd g 8 (nI d)) 9 (F 9 + (1 : Int32))) 10 (2 : Int32)) (f := upd f 7 (nI (l + 1))) (F := upd (upd (upd (upd F 8 (nI d)) 9 (F 9 + (1 : Int32))) 7 (nI (l + 1))) 10 (2 : Int32)) rfl rfl ⟨d, hd, rfl⟩ hA
        rw [c1, c2]
        exact ⟨_, _, _, _, rfl, rfl, c3, c4, c5⟩
      · rw [if_pos (i5.mpr (by omega)), if_neg (fun z => q3 (i6.mp z))]
        dsimp only
        rw [if_pos (by decide)]
        exact ⟨_, _, _, _, rfl, rfl, (((h.st ⟨d, hd, rfl⟩).fr _).lo ⟨l + 1, by omega, rfl⟩).rq (Or.inr (Or.inr rfl)), hA, rfl⟩
  · rw [if_neg (fun z => q1 (i1.mp z)), if_neg (fun z => q1 (i1.mp z))]
    by_cases q2 : s + m < 16667
    · rw [if_pos (i3.mpr q2), if_pos (i3.mpr q2), if_neg (fun z => absurd (i4.mp z) (by omega)), if_pos (i2.mpr (by omega))]
      dsimp only
      rw [if_pos (by decide)]
      exact ⟨_, _, _, _, rfl, rfl, h.st ⟨s + m, by omega, rfl⟩, hA, rfl⟩
    · rw [if_neg (fun z => q2 (i3.mp z)), if_neg (fun z => q2 (i3.mp z)), if_neg (fun z => absurd (i4.mp z) (by omega)), if_pos (i2.mpr (by omega))]
      dsimp only
      rw [if_pos (by decide)]
      exact ⟨_, _, _, _, rfl, rfl, (h.st ⟨s + m, by omega, rfl⟩).rq (Or.inr (Or.inl rfl)), hA, rfl⟩
