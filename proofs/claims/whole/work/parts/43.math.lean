/-! worked -/
theorem Mid.u0 {g f F : Nat → Int32} (h : Mid g f F) {v : Int32} (hv : Wd v) : Mid g (upd f 0 v) (upd F 0 v) := by
  obtain ⟨⟨h0, h1, h2, h3, h4, h5, h6, h7, h11⟩, gg, ⟨r1, r2, r3, r4⟩, bb, o, ok⟩ := h
  exact ⟨⟨rfl, h1, h2, h3, h4, h5, h6, h7, h11⟩, gg, ⟨hv, r2, r3, r4⟩, bb, o, ok⟩
theorem Mid.u1 {g f F : Nat → Int32} (h : Mid g f F) (v : Int32) : Mid g (upd f 1 v) (upd F 1 v) := by
  obtain ⟨⟨h0, h1, h2, h3, h4, h5, h6, h7, h11⟩, gg, rr, bb, o, ok⟩ := h
  exact ⟨⟨h0, rfl, h2, h3, h4, h5, h6, h7, h11⟩, gg, rr, bb, o, ok⟩
theorem Mid.off {g f F : Nat → Int32} (h : Mid g f F) : Mid g (upd (upd f 2 (0 : Int32)) 4 (0 : Int32)) (upd (upd F 2 (0 : Int32)) 4 (0 : Int32)) := by
  obtain ⟨⟨h0, h1, h2, h3, h4, h5, h6, h7, h11⟩, gg, rr, ⟨b1, b2, b3⟩, o, ok⟩ := h
  exact ⟨⟨h0, h1, rfl, h3, rfl, h5, h6, h7, h11⟩, gg, rr, ⟨Or.inl rfl, b2, Or.inl rfl⟩, Or.inl rfl, ok⟩
theorem Mid.rq {g f F : Nat → Int32} (h : Mid g f F) {v : Int32} (hv : Rq v) : Mid (upd g 10 v) f (upd F 10 v) := by
  obtain ⟨ff, ⟨g1, g2, g3⟩, ⟨r1, r2, r3, r4⟩, bb, o, ok⟩ := h
  exact ⟨ff, ⟨g1, g2, rfl⟩, ⟨r1, r2, r3, hv⟩, bb, o, ok⟩
theorem Mid.st {g f F : Nat → Int32} (h : Mid g f F) {v : Int32} (hv : St v) : Mid (upd g 8 v) f (upd F 8 v) := by
  obtain ⟨ff, ⟨g1, g2, g3⟩, ⟨r1, r2, r3, r4⟩, bb, o, ok⟩ := h
  exact ⟨ff, ⟨rfl, g2, g3⟩, ⟨r1, r2, hv, r4⟩, bb, o, ok⟩
theorem Mid.fr {g f F : Nat → Int32} (h : Mid g f F) (v : Int32) : Mid (upd g 9 v) f (upd F 9 v) := by
  obtain ⟨ff, ⟨g1, g2, g3⟩, rr, bb, o, ok⟩ := h
  exact ⟨ff, ⟨g1, rfl, g3⟩, rr, bb, o, ok⟩
theorem Mid.lo {g f F : Nat → Int32} (h : Mid g f F) {v : Int32} (hv : Lo v) : Mid g (upd f 7 v) (upd F 7 v) := by
  obtain ⟨⟨h0, h1, h2, h3, h4, h5, h6, h7, h11⟩, gg, ⟨r1, r2, r3, r4⟩, bb, o, ok⟩ := h
  exact ⟨⟨h0, h1, h2, h3, h4, h5, h6, rfl, h11⟩, gg, ⟨r1, hv, r3, r4⟩, bb, o, ok⟩
theorem Mid.cd {g f F : Nat → Int32} (h : Mid g f F) (v : Int32) : Mid g f (upd F 11 v) := h
/-- an instruction of the reference, with the permission that was due -/
def rEx (F : Nat → Int32) (a : Nat → Nat → Int32) : Int32 × (Nat → Int32) × (Nat → Nat → Int32) := ((rOne (upd (upd F 17 (F 3)) 3 (0 : Int32)) a).1, rPend (rOne (upd (upd F 17 (F 3)) 3 (0 : Int32)) a).2.1, (rOne (upd (upd F 17 (F 3)) 3 (0 : Int32)) a).2.2)
theorem m_exec {g f F : Nat → Int32} {a : Nat → Nat → Int32} (h : Mid g f F) (e11 : F 11 = 0) (hA : OkA a) : ∃ (n : Int32) (f2 F2 : Nat → Int32) (a2 : Nat → Nat → Int32), xExecute f a = (n, f2, a2) ∧ rEx F a = (n, F2, a2) ∧ Mid g f2 F2 ∧ OkA a2 ∧ Cn n ∧ F2 11 = 0 := by
  have h3 : f 3 = F 3 := h.1.2.2.2.1
  have hs : St (g 8) := by rw [h.2.1.1]; exact h.2.2.1.2.2.1
  have hr : Rq (g 10) := by rw [h.2.1.2.2]; exact h.2.2.1.2.2.2
  obtain ⟨x, e1, ⟨e2, e3, e4⟩, cn⟩ := m_one (h.si e11) hA rfl rfl
  unfold rEx
  rw [e1, h3]
  generalize rOne (upd (upd F 17 (F 3)) 3 (0 : Int32)) a = R at e2 e3 e4 cn ⊢
  obtain ⟨n, F1, a1⟩ := R
  obtain ⟨f1, a1'⟩ := x
  dsimp only at e2 e3 e4 cn
  subst e2
  obtain ⟨f2, p1, p2⟩ := m_pend (n := n) (a := a1') e3 (by rw [e3.2.2.2.2.1]; exact hs) (by rw [e3.2.2.2.2.2.2.1.1]; exact hr)
  exact ⟨n, f2, rPend F1, a1', p1, rfl, p2, e4, cn, (rPend_11 F1).trans e3.2.2.2.2.2.2.1.2⟩
theorem rWorked_eq (F : Nat → Int32) (a : Nat → Nat → Int32) : rWorked F a = if F 2 = 0 then (if F 4 = 0 then rEx F a else ((1 : Int32), F, a)) else if F 10 ≤ 0 then (if F 4 = 0 then rEx F a else ((1 : Int32), F, a)) else (match rPush (upd (upd F 2 (0 : Int32)) 4 (0 : Int32)) a (F 1) with
      | (f_11, a_11) => ((11 : Int32), upd (upd f_11 1 ((8 : Int32) * (f_11 10))) 10 (0 : Int32), a_11)) := by
  unfold rWorked rEx rPend
  generalize rOne (upd (upd F 17 (F 3)) 3 (0 : Int32)) a = R
  obtain ⟨n, F1, a1⟩ := R
  dsimp only
  by_cases q2 : F 2 = 0
  · rw [if_pos q2, if_pos q2]
    by_cases q4 : F 4 = 0
    · rw [if_pos q4, if_pos q4]
      by_cases e2 : F1 2 = 0
      · rw [if_pos e2, if_pos e2]
        by_cases e17 : F1 17 = 0
        · rw [if_pos e17, if_pos e17]
        · rw [if_neg e17, if_neg e17]
      · rw [if_neg e2, if_neg e2]
    · rw [if_neg q4, if_neg q4]
  · rw [if_neg q2, if_neg q2]
    by_cases q10 : F 10 ≤ 0
    · rw [if_pos q10, if_pos q10]
      by_cases q4 : F 4 = 0
      · rw [if_pos q4, if_pos q4]
        by_cases e2 : F1 2 = 0
        · rw [if_pos e2, if_pos e2]
          by_cases e17 : F1 17 = 0
          · rw [if_pos e17, if_pos e17]
          · rw [if_neg e17, if_neg e17]
        · rw [if_neg e2, if_neg e2]
      · rw [if_neg q4, if_neg q4]
    · rw [if_neg q10, if_neg q10]
/-- a request taken -/
theorem m_take {g f F : Nat → Int32} {a : Nat → Nat → Int32} (h : Mid g f F) (hA : OkA a) : ∃ (f2 F2 : Nat → Int32) (a2 : Nat → Nat → Int32), xTakeRequest f a (g 10) = ((11 : Int32), f2, a2) ∧ (match rPush (upd (upd F 2 (0 : Int32)) 4 (0 : Int32)) a (F 1) with
      | (f_11, a_11) => ((11 : Int32), upd (upd f_11 1 ((8 : Int32) * (f_11 10))) 10 (0 : Int32), a_11)) = ((11 : Int32), F2, a2) ∧ Mid (upd g 10 (0 : Int32)) f2 F2 ∧ OkA a2 ∧ F2 11 = F 11 := by
  have ho := h.off
  have e0 : (upd (upd f 2 (0 : Int32)) 4 (0 : Int32)) 0 = (upd (upd F 2 (0 : Int32)) 4 (0 : Int32)) 0 := h.1.1
  have e10 : (rPush (upd (upd F 2 (0 : Int32)) 4 (0 : Int32)) a (F 1)).1 10 = g 10 := h.2.1.2.2.symm
  have q11 : (rPush (upd (upd F 2 (0 : Int32)) 4 (0 : Int32)) a (F 1)).1 11 = F 11 := rfl
  have p1 : (rPush (upd (upd F 2 (0 : Int32)) 4 (0 : Int32)) a (F 1)).2 = (xPush (upd (upd f 2 (0 : Int32)) 4 (0 : Int32)) a (F 1)).2 := by
    show ua (ua a 1 (rWrite _ a _ _)) 1 (rWrite _ (ua a 1 (rWrite _ a _ _)) _ _) = ua a 1 (xWrite (ua a 1 (xWrite a _ _)) _ _)
    rw [m_aa, m_write, m_write, m_writeM, e0]
  have p2 : Mid g (xPush (upd (upd f 2 (0 : Int32)) 4 (0 : Int32)) a (F 1)).1 (rPush (upd (upd F 2 (0 : Int32)) 4 (0 : Int32)) a (F 1)).1 := by
    show Mid g (upd _ 0 _) (upd _ 0 _)
    rw [e0]
    exact ho.u0 (Wd.of _)
  have p3 : OkA (xPush (upd (upd f 2 (0 : Int32)) 4 (0 : Int32)) a (F 1)).2 := hA.push _
  unfold xTakeRequest
  rw [h.1.2.1]
  generalize rPush (upd (upd F 2 (0 : Int32)) 4 (0 : Int32)) a (F 1) = Y at p1 p2 e10 q11 ⊢
  generalize xPush (upd (upd f 2 (0 : Int32)) 4 (0 : Int32)) a (F 1) = X at p1 p2 p3 ⊢
  obtain ⟨F1, b1⟩ := Y
  obtain ⟨f1, b2⟩ := X
  dsimp only at p1 p2 p3 e10 q11
  subst p1
  dsimp only
  rw [e10]
  exact ⟨_, _, _, rfl, rfl, (p2.u1 _).rq (Or.inl rfl), p3, q11⟩
