/-! calls: refused, and the simple ones -/
def Cd (b : Bool) : Int32 := if b then (1 : Int32) else (0 : Int32)
theorem i_nle {x y : Int32} : ¬ x ≤ y ↔ y < x := Int32.not_le
theorem i_nlt {x y : Int32} : ¬ x < y ↔ y ≤ x := Int32.not_lt
theorem i_lt3 {n : Nat} (h : n < 2 ^ 31) (k : Nat) (hk : k < 1000) : (nI n < nI (k + 1)) ↔ (nI n ≤ nI k) := by
  rw [nI_ltI h (by omega), nI_leI h (by omega)]; omega
/-- load -/
theorem m_loadL {a : Nat → Nat → Int32} {p2 p3 : Int32} {q P : Nat} (hq : q + P ≤ 2048) : ∀ (n k : Nat) (r : Nat → Int32), k + n ≤ P → xLoadL a (nI q) p2 p3 n k r = rLoadL (nI q) p2 p3 n k r := by
  intro n
  induction n with
  | zero => intro k r _; rfl
  | succ n ih =>
    intro k r h
    show xLoadL a (nI q) p2 p3 n (k + 1) (xBurn (ua a 0 r) (nI q + nI k) _) = rLoadL (nI q) p2 p3 n (k + 1) (upd r (nI q + nI k).toNatClampNeg _)
    rw [ih (k + 1) _ (by omega)]
    have e : xBurn (ua a 0 r) (nI q + nI k) (p2 >>> (((8 : Int32) * ((p3 - (1 : Int32)) - (nI k))) &&& 31)) = upd r (nI q + nI k).toNatClampNeg ((p2 >>> (((8 : Int32) * ((p3 - (1 : Int32)) - (nI k))) &&& 31)) &&& (255 : Int32)) := by
      unfold xBurn
      rw [nI_add, if_neg (nI_pos (by omega)), if_neg (show ¬ (2048 : Int32) ≤ nI (q + k) from nI_ge (b := 2048) (by omega) (by omega))]
      rfl
    rw [e]
theorem by_loadL {p1 p2 p3 : Int32} : ∀ (n k : Nat) (r : Nat → Int32), (∀ i, By (r i)) → ∀ i, By (rLoadL p1 p2 p3 n k r i) := by
  intro n
  induction n with
  | zero => intro k r h; exact h
  | succ n ih => intro k r h; exact ih (k + 1) _ (by_upd h _ (By.of _))
theorem m_load {g f : Nat → Int32} (F : Nat → Int32) {a : Nat → Nat → Int32} (hA : OkA a) (p1 p2 p3 : Int32) : rLoad F a p1 p2 p3 = ((xLoad g f a p1 p2 p3).1, upd F 11 (Cd (xLoadX g f a p1 p2 p3)), ua a 0 (xLoad g f a p1 p2 p3).2) ∧ OkA (ua a 0 (xLoad g f a p1 p2 p3).2) := by
  unfold rLoad xLoad xLoadX
  by_cases q1 : p3 < (1 : Int32)
  · rw [if_pos q1, if_pos q1, if_pos q1, m_a0]; exact ⟨rfl, hA⟩
  rw [if_neg q1, if_neg q1, if_neg q1]
  by_cases q2 : p3 ≤ (4 : Int32)
  · rw [if_neg (fun z => i_nle.mpr z q2), if_pos q2, if_pos q2]
    by_cases q3 : p1 < 0
    · rw [if_pos q3, if_pos q3, if_pos q3, m_a0]; exact ⟨rfl, hA⟩
    rw [if_neg q3, if_neg q3, if_neg q3]
    by_cases q4 : p1 ≤ ((2048 : Int32) - p3)
    · rw [if_pos q4, if_pos q4, if_pos q4]
      have h3 : ¬ p3 < 0 := fun z => q1 (Int32.lt_trans z (by decide))
      obtain ⟨P, hP, rfl⟩ := nI_of2 (M := 4) (n := 4) (by decide) h3 q2
      obtain ⟨q, hq, rfl⟩ := nI_of q3
      rw [show (2048 : Int32) = nI 2048 from rfl, pk_sub (a := 2048) (b := P) (by omega), nI_leI hq (by omega)] at q4
      have eP : (nI P).toNatClampNeg = P := nI_clamp (by omega)
      rw [eP, m_loadL (a := a) (q := q) (P := P) (by omega) P 0 (a 0) (by omega)]
      exact ⟨rfl, by_loadL P 0 _ hA.1, hA.2.1, hA.2.2.1, hA.2.2.2.1, hA.2.2.2.2⟩
    · rw [if_neg q4, if_neg q4, if_neg q4, m_a0]; exact ⟨rfl, hA⟩
  · rw [if_pos (i_nle.mp q2), if_neg q2, if_neg q2, m_a0]; exact ⟨rfl, hA⟩
/-- input -/
theorem m_input {g f : Nat → Int32} (F : Nat → Int32) {a : Nat → Nat → Int32} (hA : OkA a) (p1 p2 : Int32) : rInput F a p1 p2 = (upd F 11 (Cd (xInputX g f a p1 p2)), ua a 3 (xInput g f a p1 p2)) ∧ OkA (ua a 3 (xInput g f a p1 p2)) := by
  unfold rInput xInput xInputX
  by_cases q1 : p1 < 0
  · rw [if_pos q1, if_pos q1, if_pos q1, m_a0]; exact ⟨rfl, hA⟩
  rw [if_neg q1, if_neg q1, if_neg q1]
  obtain ⟨q, hq, rfl⟩ := nI_of q1
  have e : (nI q < (3 : Int32)) ↔ (nI q ≤ (2 : Int32)) := i_lt3 hq 2 (by decide)
  by_cases q2 : nI q < (3 : Int32)
  · rw [if_pos (e.mp q2), if_pos q2, if_pos q2]
    unfold xSetInput
    rw [if_neg q1, if_neg (i_nle.mpr q2)]
    exact ⟨rfl, hA.1, hA.2.1, hA.2.2.1, by_upd hA.2.2.2.1 _ (By.of _), hA.2.2.2.2⟩
  · rw [if_neg (fun z => q2 (e.mpr z)), if_neg q2, if_neg q2, m_a0]; exact ⟨rfl, hA⟩
/-- reset -/
theorem m_reset {g f F : Nat → Int32} {a : Nat → Nat → Int32} (h : Mid g f F) (hA : OkA a) : ∃ (g2 f2 F2 : Nat → Int32) (a2 : Nat → Nat → Int32), xReset g f a = (g2, f2, a2) ∧ rReset F a = (F2, a2) ∧ Mid g2 f2 F2 ∧ OkA a2 := by
  obtain ⟨g2, f2, F2, a2, c1, c2, c3, c4, _⟩ := m_clear (g := g) (f := f) (F := upd F 11 (0 : Int32)) h.2.1.1 h.2.1.2.1 h.2.2.1.2.2.1 hA
  unfold xReset rReset
  rw [c1, c2]
  exact ⟨_, _, _, _, rfl, rfl, c3.st ⟨0, by decide, rfl⟩, c4⟩
/-- memory, poke -/
theorem m_memory (g f F : Nat → Int32) (a : Nat → Nat → Int32) (p : Int32) : rMemory F a p = (xMemory g f a p, upd F 11 (0 : Int32)) := by
  unfold rMemory xMemory
  rw [m_read]
theorem m_poke (g f F : Nat → Int32) {a : Nat → Nat → Int32} (hA : OkA a) (p v : Int32) : rPoke F a p v = ((xPoke g f a p v).1, upd F 11 (0 : Int32), ua a 1 (xPoke g f a p v).2) ∧ OkA (ua a 1 (xPoke g f a p v).2) := by
  unfold rPoke xPoke
  rw [m_read, m_write]
  exact ⟨rfl, hA.wr _ _⟩
/-- sounds -/
theorem m_sounds (g f F : Nat → Int32) (a : Nat → Nat → Int32) (p : Int32) : rSounds F a p = (xSounds g f a p, upd F 11 (Cd (xSoundsX g f a p))) := by
  unfold rSounds xSounds xSoundsX
  by_cases q1 : p < 0
  · rw [if_pos q1, if_pos q1, if_pos q1]; rfl
  rw [if_neg q1, if_neg q1, if_neg q1]
  obtain ⟨q, hq, rfl⟩ := nI_of q1
  have e : (nI q < (16 : Int32)) ↔ (nI q ≤ (15 : Int32)) := i_lt3 hq 15 (by decide)
  by_cases q2 : nI q < (16 : Int32)
  · rw [if_pos (e.mp q2), if_pos q2, if_pos q2]
    unfold xRisesOf
    have q3 : q < 16 := (nI_ltI (a := q) (b := 16) hq (by omega)).mp q2
    rw [pk_andN (by omega) 4 (by decide), Nat.mod_eq_of_lt q3]; rfl
  · rw [if_neg (fun z => q2 (e.mpr z)), if_neg q2, if_neg q2]; rfl
/-- register -/
theorem m_register {g f F : Nat → Int32} (h : Mid g f F) (a : Nat → Nat → Int32) (p : Int32) : rRegister F a p = (xRegister g f a p, upd F 11 (Cd (xRegisterX g f a p))) := by
  unfold rRegister xRegister xRegisterX
  by_cases q1 : p < 0
  · rw [if_pos q1, if_pos q1, if_pos q1]; rfl
  rw [if_neg q1, if_neg q1, if_neg q1]
  by_cases q2 : p ≤ (11 : Int32)
  · rw [if_pos q2, if_pos q2, if_pos q2]
    obtain ⟨q, hq, rfl⟩ := nI_of2 (M := 11) (n := 11) (by decide) q1 q2
    obtain ⟨h0, h1, h2, h3, h4, h5, h6, h7, h11⟩ := h.1
    unfold xContentOf
    rw [h0, h1, h2, h4, h11]
    have hc : q = 0 ∨ q = 1 ∨ q = 2 ∨ q = 3 ∨ q = 4 ∨ q = 5 ∨ q = 6 ∨ q = 7 ∨ q = 8 ∨ q = 9 ∨ q = 10 ∨ q = 11 := by omega
    rcases hc with rfl | rfl | rfl | rfl | rfl | rfl | rfl | rfl | rfl | rfl | rfl | rfl
    · rfl
    · rfl
    · rfl
    · rfl
    · rfl
    · rfl
    · rfl
    · rfl
    · rfl
    · rfl
    · by_cases e : F 2 = 0
      · rw [if_neg (by decide), if_pos (by decide), if_neg (by decide), if_neg (by decide), if_pos (by decide), if_pos e, if_neg (by decide), if_neg (by decide), if_neg (by decide), if_pos (by decide), if_pos e]; rfl
      · rw [if_neg (by decide), if_pos (by decide), if_neg (by decide), if_neg (by decide), if_pos (by decide), if_neg e, if_neg (by decide), if_neg (by decide), if_neg (by decide), if_pos (by decide), if_neg e]; rfl
    · by_cases e : F 4 = 0
      · rw [if_neg (by decide), if_pos (by decide), if_neg (by decide), if_neg (by decide), if_neg (by decide), if_pos e, if_neg (by decide), if_neg (by decide), if_neg (by decide), if_neg (by decide), if_pos (by decide), if_pos e]; rfl
      · rw [if_neg (by decide), if_pos (by decide), if_neg (by decide), if_neg (by decide), if_neg (by decide), if_neg e, if_neg (by decide), if_neg (by decide), if_neg (by decide), if_neg (by decide), if_pos (by decide), if_neg e]; rfl
  · rw [if_neg q2, if_neg q2, if_neg q2]; rfl
/-- state -/
theorem m_state {g f F : Nat → Int32} (h : Mid g f F) (a : Nat → Nat → Int32) (p : Int32) : rState F a p = (xState g f a p, upd F 11 (Cd (xStateX g f a p))) := by
  obtain ⟨h0, h1, h2, h3, h4, h5, h6, h7, h11⟩ := h.1
  obtain ⟨g1, g2, g3⟩ := h.2.1
  unfold rState xState xStateX
  by_cases q1 : p < 0
  · have ne : ∀ k : Nat, k < 1000 → ¬ p = nI k := fun k hk z => by rw [z] at q1; exact nI_pos (by omega) q1
    rw [if_pos q1]
    rw [if_neg (show ¬ p = (0 : Int32) from ne 0 (by decide)), if_neg (show ¬ p = (1 : Int32) from ne 1 (by decide)), if_neg (show ¬ p = (2 : Int32) from ne 2 (by decide)), if_neg (show ¬ p = (3 : Int32) from ne 3 (by decide)), if_neg (show ¬ p = (4 : Int32) from ne 4 (by decide)), if_neg (show ¬ p = (5 : Int32) from ne 5 (by decide)), if_neg (show ¬ p = (6 : Int32) from ne 6 (by decide)), if_neg (show ¬ p = (0 : Int32) from ne 0 (by decide)), if_neg (show ¬ p = (1 : Int32) from ne 1 (by decide)), if_neg (show ¬ p = (2 : Int32) from ne 2 (by decide)), if_neg (show ¬ p = (3 : Int32) from ne 3 (by decide)), if_neg (show ¬ p = (4 : Int32) from ne 4 (by decide)), if_neg (show ¬ p = (5 : Int32) from ne 5 (by decide)), if_neg (show ¬ p = (6 : Int32) from ne 6 (by decide))]
    rfl
  rw [if_neg q1]
  by_cases q2 : p ≤ (6 : Int32)
  · rw [if_pos q2]
    obtain ⟨q, hq, rfl⟩ := nI_of2 (M := 6) (n := 6) (by decide) q1 q2
    unfold xShifted
    rw [g1, g2, g3, h7, h5, h6]
    have hc : q = 0 ∨ q = 1 ∨ q = 2 ∨ q = 3 ∨ q = 4 ∨ q = 5 ∨ q = 6 := by omega
    rcases hc with rfl | rfl | rfl | rfl | rfl | rfl | rfl
    · rfl
    · rfl
    · rfl
    · rfl
    · rfl
    · rfl
    · rfl
  · have ne : ∀ k : Nat, k ≤ 6 → ¬ p = nI k := fun k hk z => q2 (by rw [z]; exact nI_le (b := 6) hk (by omega))
    rw [if_neg q2]
    rw [if_neg (show ¬ p = (0 : Int32) from ne 0 (by decide)), if_neg (show ¬ p = (1 : Int32) from ne 1 (by decide)), if_neg (show ¬ p = (2 : Int32) from ne 2 (by decide)), if_neg (show ¬ p = (3 : Int32) from ne 3 (by decide)), if_neg (show ¬ p = (4 : Int32) from ne 4 (by decide)), if_neg (show ¬ p = (5 : Int32) from ne 5 (by decide)), if_neg (show ¬ p = (6 : Int32) from ne 6 (by decide)), if_neg (show ¬ p = (0 : Int32) from ne 0 (by decide)), if_neg (show ¬ p = (1 : Int32) from ne 1 (by decide)), if_neg (show ¬ p = (2 : Int32) from ne 2 (by decide)), if_neg (show ¬ p = (3 : Int32) from ne 3 (by decide)), if_neg (show ¬ p = (4 : Int32) from ne 4 (by decide)), if_neg (show ¬ p = (5 : Int32) from ne 5 (by decide)), if_neg (show ¬ p = (6 : Int32) from ne 6 (by decide))]
    rfl
/-- run -/
theorem m_run {g f F : Nat → Int32} {a : Nat → Nat → Int32} (h : Mid g f F) (hA : OkA a) (p : Int32) : ∃ (v : Int32) (g2 f2 F2 : Nat → Int32) (a2 : Nat → Nat → Int32), xRun g f a p = (v, g2, f2, a2) ∧ rRun F a p = (v, F2, a2) ∧ Mid g2 f2 F2 ∧ OkA a2 ∧ F2 11 = Cd (xRunX g f a p) := by
  unfold xRun rRun xRunX
  by_cases q1 : p < (1 : Int32)
  · rw [if_pos q1, if_pos q1, if_pos q1]; exact ⟨_, _, _, _, _, rfl, rfl, h.cd _, hA, rfl⟩
  rw [if_neg q1, if_neg q1, if_neg q1]
  by_cases q2 : p ≤ (40000 : Int32)
  · rw [if_pos q2, if_pos q2, if_pos q2]
    have h3 : ¬ p < 0 := fun z => q1 (Int32.lt_trans z (by decide))
    obtain ⟨L, hL, rfl⟩ := nI_of2 (M := 40000) (n := 40000) (by decide) h3 q2
    obtain ⟨v, g2, f2, F2, a2, x1, x2, x3, x4, x5⟩ := m_runL hL L 0 (by omega) (by omega) nRun 0 (nRun + 1) g f (upd F 11 (0 : Int32)) a (by unfold nRun; omega) (by unfold nRun; omega) (h.cd _) hA rfl
    exact ⟨v, g2, f2, F2, a2, x1, x2, x3, x4, x5⟩
  · rw [if_neg q2, if_neg q2, if_neg q2]; exact ⟨_, _, _, _, _, rfl, rfl, h.cd _, hA, rfl⟩
