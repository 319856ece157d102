/-! between two steps -/
def St (x : Int32) : Prop := ∃ n : Nat, n < 33333 ∧ x = nI n
def Rq (x : Int32) : Prop := x = 0 ∨ x = 1 ∨ x = 2
/-- the class's scalars f, its frame counters g, the reference's F -/
def Mid (g f F : Nat → Int32) : Prop := (f 0 = F 0 ∧ f 1 = F 1 ∧ f 2 = F 2 ∧ f 3 = F 3 ∧ f 4 = F 4 ∧ f 5 = F 5 ∧ f 6 = F 6 ∧ f 7 = F 7 ∧ f 11 = rFl F) ∧ (g 8 = F 8 ∧ g 9 = F 9 ∧ g 10 = F 10) ∧ (Wd (F 0) ∧ Lo (F 7) ∧ St (F 8) ∧ Rq (F 10)) ∧ (Bt (F 2) ∧ Bt (F 3) ∧ Bt (F 4)) ∧ (F 2 = 0 ∨ F 3 = 0) ∧ OkB F
theorem Mid.si {g f F : Nat → Int32} (h : Mid g f F) (e11 : F 11 = 0) : Si (F 3) g f (upd (upd F 17 (F 3)) 3 (0 : Int32)) := by
  obtain ⟨⟨h0, h1, h2, h3, h4, h5, h6, h7, h11⟩, ⟨g1, g2, g3⟩, ⟨r1, r2, r3, r4⟩, ⟨b1, b2, b3⟩, o, ok⟩ := h
  refine ⟨⟨h0, h1, h2, ?_, h4, h5, h6, h7, h11⟩, Or.inl rfl, Or.inl rfl, ⟨o, Or.inr rfl⟩, g1.symm, g2.symm, ⟨g3.symm, e11⟩, ⟨r1, r2⟩, b1, Or.inl rfl, b3, b2, ok⟩
  show f 3 = (0 : Int32) ||| F 3
  rw [Int32.zero_or]; exact h3
/-- the reference behind an instruction: the permission that was due -/
def rPend (F : Nat → Int32) : Nat → Int32 := if F 2 = 0 then (if F 17 = 0 then upd F 2 (0 : Int32) else upd F 2 (1 : Int32)) else upd F 2 (1 : Int32)
theorem rPend_11 (F : Nat → Int32) : rPend F 11 = F 11 := by
  unfold rPend
  by_cases q : F 2 = 0
  · rw [if_pos q]
    by_cases e : F 17 = 0
    · rw [if_pos e]; rfl
    · rw [if_neg e]; rfl
  · rw [if_neg q]; rfl
theorem m_u2 {F : Nat → Int32} (b : Bt (F 2)) (h : F 17 = 0) : rPend F = F := by
  unfold rPend
  rcases b with q | q
  · rw [if_pos q, if_pos h, ← q, upd_id]
  · rw [if_neg (by rw [q]; decide), ← q, upd_id]
theorem Si.mid {c : Int32} {g f F : Nat → Int32} (h : Si c g f F) (hs : St (F 8)) (hr : Rq (F 10)) (h17 : F 17 = 0) : Mid g f F := by
  obtain ⟨⟨h0, h1, h2, h3, h4, h5, h6, h7, h11⟩, k1, k2, k3, k4, k5, k6, k7, k8, k9, k10, k11, k12⟩ := h
  rw [h17, Int32.or_zero] at h3
  exact ⟨⟨h0, h1, h2, h3, h4, h5, h6, h7, h11⟩, ⟨k4.symm, k5.symm, k6.1.symm⟩, ⟨k7.1, k7.2, hs, hr⟩, ⟨k8, k9, k10⟩, k3.2, k12⟩
theorem m_pend {c n : Int32} {g f F : Nat → Int32} {a : Nat → Nat → Int32} (h : Si c g f F) (hs : St (F 8)) (hr : Rq (F 10)) : ∃ f2 : Nat → Int32, xPend c n (f, a) = (n, f2, a) ∧ Mid g f2 (rPend F) := by
  unfold xPend
  by_cases hc : c = 0
  · have h17 : F 17 = 0 := by
      rcases h.2.1 with q | q
      · exact q.trans hc
      · exact q
    rw [if_pos hc]
    refine ⟨f, rfl, ?_⟩
    rw [m_u2 h.2.2.2.2.2.2.2.2.1 h17]
    exact h.mid hs hr h17
  · rw [if_neg hc]
    have h3 : F 3 = 0 := h.2.2.1.resolve_right hc
    have h2 : F 2 = 0 := h.2.2.2.1.1.resolve_right hc
    have hf : f 3 = F 17 := by
      have q := h.1.2.2.2.1
      rw [h3, Int32.zero_or] at q
      exact q
    by_cases q : f 3 = 0
    · have h17 : F 17 = 0 := hf.symm.trans q
      rw [if_pos q]
      refine ⟨f, rfl, ?_⟩
      rw [m_u2 h.2.2.2.2.2.2.2.2.1 h17]
      exact h.mid hs hr h17
    · rw [if_neg q]
      have h17 : ¬ F 17 = 0 := fun z => q (hf.trans z)
      refine ⟨upd (upd f 2 (1 : Int32)) 3 (0 : Int32), rfl, ?_⟩
      unfold rPend
      rw [if_pos h2, if_neg h17]
      obtain ⟨⟨h0, h1, h2, h3', h4, h5, h6, h7, h11⟩, k1, k2, k3, k4, k5, k6, k7, k8, k9, k10, k11, k12⟩ := h
      exact ⟨⟨h0, h1, rfl, h3.symm, h4, h5, h6, h7, h11⟩, ⟨k4.symm, k5.symm, k6.1.symm⟩, ⟨k7.1, k7.2, hs, hr⟩, ⟨Or.inr rfl, k9, k10⟩, Or.inr h3, k12⟩
