/-! one step, and the wait of a halted processor -/
def Wt (g f : Nat → Int32) : Prop := ¬ f 4 = 0 ∧ (f 2 = 0 ∨ g 10 = 0)
theorem m_rq0 {x : Int32} (h : Rq x) : x ≤ 0 ↔ x = 0 := by
  rcases h with rfl | rfl | rfl
  · exact ⟨fun _ => rfl, fun _ => by decide⟩
  · exact ⟨fun z => absurd z (by decide), fun z => absurd z (by decide)⟩
  · exact ⟨fun z => absurd z (by decide), fun z => absurd z (by decide)⟩
theorem m_go {g f F : Nat → Int32} {a : Nat → Nat → Int32} (h : Mid g f F) (hA : OkA a) (hw : ¬ Wt g f) (p : Int32) : ∃ (n : Int32) (g2 f2 F2 : Nat → Int32) (a2 : Nat → Nat → Int32), xAdvance g f a p = (n, g2, f2, a2) ∧ rStep F a = (n, F2, a2) ∧ Mid g2 f2 F2 ∧ OkA a2 ∧ Cn n ∧ F2 11 = 0 := by
  have h' := h.cd (0 : Int32)
  have e2 : (upd F 11 (0 : Int32)) 2 = f 2 := h.1.2.2.1.symm
  have e4 : (upd F 11 (0 : Int32)) 4 = f 4 := h.1.2.2.2.2.1.symm
  have e10 : (upd F 11 (0 : Int32)) 10 = g 10 := h.2.1.2.2.symm
  have er := m_rq0 h'.2.2.1.2.2.2
  rw [e10] at er
  rw [xAdv_eq, rStep_eq, rWorked_eq, e2, e4, e10]
  have e11 : (upd F 11 (0 : Int32)) 11 = 0 := rfl
  generalize upd F 11 (0 : Int32) = F' at h' e11
  obtain ⟨n, f1, F1, a1, x1, x2, x3, x4, x5, x6⟩ := m_exec h' e11 hA
  obtain ⟨g2, f2, F2, a2, y1, y2, y3, y4, y5⟩ := m_fin x3 x4 x5
  obtain ⟨f1', F1', a1', u1, u2, u3, u4, u5⟩ := m_take h' hA
  obtain ⟨g2', f2', F2', a2', v1, v2, v3, v4, v5⟩ := m_fin u3 u4 (cn_lit (m := 11) (by decide) (by decide))
  by_cases q2 : f 2 = 0
  · have q4 : f 4 = 0 := Decidable.byContradiction (fun z => hw ⟨z, Or.inl q2⟩)
    rw [if_pos q2, if_pos q4, if_pos q2, if_pos q4, x1, x2]
    exact ⟨n, g2, f2, F2, a2, y1, y2, y3, y4, x5, y5.trans x6⟩
  · rw [if_neg q2, if_neg q2]
    by_cases q10 : g 10 = 0
    · have q4 : f 4 = 0 := Decidable.byContradiction (fun z => hw ⟨z, Or.inr q10⟩)
      rw [if_pos q10, if_pos q4, if_pos (er.mpr q10), if_pos q4, x1, x2]
      exact ⟨n, g2, f2, F2, a2, y1, y2, y3, y4, x5, y5.trans x6⟩
    · rw [if_neg q10, if_neg (fun z => q10 (er.mp z)), u1, u2]
      exact ⟨(11 : Int32), g2', f2', F2', a2', v1, v2, v3, v4, cn_lit (m := 11) (by decide) (by decide), v5.trans (u5.trans e11)⟩
theorem m_wt {g f F : Nat → Int32} {a : Nat → Nat → Int32} (h : Mid g f F) (hw : Wt g f) (p : Int32) : xAdvance g f a p = xFin g f a (if xUntil g < p then xUntil g else p) ∧ rStep F a = rFin (upd F 11 (0 : Int32)) a (1 : Int32) := by
  have h' := h.cd (0 : Int32)
  have e2 : (upd F 11 (0 : Int32)) 2 = f 2 := h.1.2.2.1.symm
  have e4 : (upd F 11 (0 : Int32)) 4 = f 4 := h.1.2.2.2.2.1.symm
  have e10 : (upd F 11 (0 : Int32)) 10 = g 10 := h.2.1.2.2.symm
  have er := m_rq0 h'.2.2.1.2.2.2
  rw [e10] at er
  rw [xAdv_eq, rStep_eq, rWorked_eq, e2, e4, e10]
  by_cases q2 : f 2 = 0
  · rw [if_pos q2, if_neg hw.1, if_pos q2, if_neg hw.1]
    exact ⟨rfl, rfl⟩
  · have q10 : g 10 = 0 := hw.2.resolve_left q2
    rw [if_neg q2, if_neg q2, if_pos q10, if_neg hw.1, if_pos (er.mpr q10), if_neg hw.1]
    exact ⟨rfl, rfl⟩
/-- until the next frame's mark -/
def untN (s : Nat) : Nat := if 16667 ≤ s then 33333 - s else 16667 - s
theorem m_until {g : Nat → Int32} {s : Nat} (hs : s < 33333) (e : g 8 = nI s) : xUntil g = nI (untN s) ∧ 1 ≤ untN s ∧ untN s ≤ 16667 := by
  unfold xUntil untN
  rw [e]
  by_cases q : 16667 ≤ s
  · rw [if_pos ((m_i1 (by omega)).mpr q), if_pos q, l_full, pk_sub (a := 33333) (b := s) (by omega)]
    exact ⟨rfl, by omega, by omega⟩
  · rw [if_neg (fun z => q ((m_i1 (by omega)).mp z)), if_neg q, l_half, pk_sub (a := 16667) (b := s) (by omega)]
    exact ⟨rfl, by omega, by omega⟩
theorem m_min {u q : Nat} (hu : u < 70000) (hq : q < 70000) : (if nI u < nI q then nI u else nI q) = nI (min u q) := by
  by_cases z : u < q
  · rw [if_pos (nI_lt z (by omega)), Nat.min_eq_left (by omega)]
  · rw [if_neg (nI_nlt (by omega) (by omega)), Nat.min_eq_right (by omega)]
theorem m_step {g f F : Nat → Int32} {a : Nat → Nat → Int32} (h : Mid g f F) (hA : OkA a) : ∃ (n : Int32) (g2 f2 F2 : Nat → Int32) (a2 : Nat → Nat → Int32), xAdvance g f a (1 : Int32) = (n, g2, f2, a2) ∧ rStep F a = (n, F2, a2) ∧ Mid g2 f2 F2 ∧ OkA a2 ∧ Cn n ∧ F2 11 = 0 := by
  by_cases hw : Wt g f
  · obtain ⟨e1, e2⟩ := m_wt (a := a) h hw (1 : Int32)
    obtain ⟨s, hs, e8⟩ := h.2.2.1.2.2.1
    obtain ⟨u1, u2, u3⟩ := m_until hs (h.2.1.1.trans e8)
    have e3 : (if xUntil g < (1 : Int32) then xUntil g else (1 : Int32)) = nI 1 := by
      rw [u1, show (1 : Int32) = nI 1 from rfl, m_min (by omega) (by omega), Nat.min_eq_right u2]
    obtain ⟨g2, f2, F2, a2, y1, y2, y3, y4, y5⟩ := m_fin (h.cd (0 : Int32)) hA (cn_lit (m := 1) (by decide) (by decide))
    rw [e1, e2, e3]
    exact ⟨nI 1, g2, f2, F2, a2, y1, y2, y3, y4, cn_lit (m := 1) (by decide) (by decide), y5⟩
  · exact m_go h hA hw _
