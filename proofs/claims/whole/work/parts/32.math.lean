/-! the reference's alu, kind by kind -/
abbrev rA (a : Nat → Nat → Int32) : Int32 := (a 2) (7 : Int32).toNatClampNeg
def mH (x : Int32) : Int32 := if x ≤ (15 : Int32) then (0 : Int32) else (1 : Int32)
def mC (x : Int32) : Int32 := if x ≤ (255 : Int32) then (0 : Int32) else (1 : Int32)
def mN (x : Int32) : Int32 := if 0 ≤ x then (0 : Int32) else (1 : Int32)
def rPut (a : Nat → Nat → Int32) (v : Int32) : Nat → Nat → Int32 := ua a 2 (upd (a 2) (7 : Int32).toNatClampNeg v)
theorem rAlu_0 (F : Nat → Int32) (a : Nat → Nat → Int32) (v : Int32) : rAlu F a (nI 0) v = (rSigns (upd (upd F 14 (mH ((((rA a) &&& (15 : Int32)) + (v &&& (15 : Int32))) + (0 : Int32)))) 16 (mC (((rA a) + v) + (0 : Int32)))) a ((((rA a) + v) + (0 : Int32)) &&& (255 : Int32)), rPut a ((((rA a) + v) + (0 : Int32)) &&& (255 : Int32))) := by
  unfold rAlu mH mC
  refine (if_neg (by decide)).trans ?_
  refine (if_neg (by decide)).trans ?_
  refine (if_neg (by decide)).trans ?_
  have e7 : ¬ (7 : Int32) ≤ nI 0 := by decide
  by_cases h1 : ((((rA a) &&& (15 : Int32)) + (v &&& (15 : Int32))) + (0 : Int32)) ≤ (15 : Int32) <;> by_cases h2 : (((rA a) + v) + (0 : Int32)) ≤ (255 : Int32)
  · rw [if_pos h1, if_pos h2, if_neg e7, if_pos h1, if_pos h2]; rfl
  · rw [if_pos h1, if_neg h2, if_neg e7, if_pos h1, if_neg h2]; rfl
  · rw [if_neg h1, if_pos h2, if_neg e7, if_neg h1, if_pos h2]; rfl
  · rw [if_neg h1, if_neg h2, if_neg e7, if_neg h1, if_neg h2]; rfl
theorem rAlu_1 (F : Nat → Int32) (a : Nat → Nat → Int32) (v : Int32) : rAlu F a (nI 1) v = (rSigns (upd (upd F 14 (mH ((((rA a) &&& (15 : Int32)) + (v &&& (15 : Int32))) + (F 16)))) 16 (mC (((rA a) + v) + (F 16)))) a ((((rA a) + v) + (F 16)) &&& (255 : Int32)), rPut a ((((rA a) + v) + (F 16)) &&& (255 : Int32))) := by
  unfold rAlu mH mC
  refine (if_pos (by decide)).trans ?_
  by_cases h1 : ((((rA a) &&& (15 : Int32)) + (v &&& (15 : Int32))) + (F 16)) ≤ (15 : Int32) <;> by_cases h2 : (((rA a) + v) + (F 16)) ≤ (255 : Int32)
  · rw [if_pos h1, if_pos h2, if_pos h1, if_pos h2]; rfl
  · rw [if_pos h1, if_neg h2, if_pos h1, if_neg h2]; rfl
  · rw [if_neg h1, if_pos h2, if_neg h1, if_pos h2]; rfl
  · rw [if_neg h1, if_neg h2, if_neg h1, if_neg h2]; rfl
theorem rAlu_2 (F : Nat → Int32) (a : Nat → Nat → Int32) (v : Int32) : rAlu F a (nI 2) v = (rSigns (upd (upd F 14 (mH (((((rA a) &&& (15 : Int32)) + ((v ^^^ (-1 : Int32)) &&& (15 : Int32))) + (1 : Int32)) - (0 : Int32)))) 16 (mN (((rA a) - v) - (0 : Int32)))) a ((((rA a) - v) - (0 : Int32)) &&& (255 : Int32)), rPut a ((((rA a) - v) - (0 : Int32)) &&& (255 : Int32))) := by
  unfold rAlu mH mN
  refine (if_neg (by decide)).trans ?_
  refine (if_neg (by decide)).trans ?_
  refine (if_pos (by decide)).trans ?_
  refine (if_pos (by decide)).trans ?_
  by_cases h1 : (((((rA a) &&& (15 : Int32)) + ((v ^^^ (-1 : Int32)) &&& (15 : Int32))) + (1 : Int32)) - (0 : Int32)) ≤ (15 : Int32) <;> by_cases h2 : 0 ≤ (((rA a) - v) - (0 : Int32))
  · rw [if_pos h1, if_pos h2, if_pos h1, if_pos h2]; rfl
  · rw [if_pos h1, if_neg h2, if_pos h1, if_neg h2]; rfl
  · rw [if_neg h1, if_pos h2, if_neg h1, if_pos h2]; rfl
  · rw [if_neg h1, if_neg h2, if_neg h1, if_neg h2]; rfl
theorem rAlu_3 (F : Nat → Int32) (a : Nat → Nat → Int32) (v : Int32) : rAlu F a (nI 3) v = (rSigns (upd (upd F 14 (mH (((((rA a) &&& (15 : Int32)) + ((v ^^^ (-1 : Int32)) &&& (15 : Int32))) + (1 : Int32)) - (F 16)))) 16 (mN (((rA a) - v) - (F 16)))) a ((((rA a) - v) - (F 16)) &&& (255 : Int32)), rPut a ((((rA a) - v) - (F 16)) &&& (255 : Int32))) := by
  unfold rAlu mH mN
  refine (if_neg (by decide)).trans ?_
  refine (if_pos (by decide)).trans ?_
  by_cases h1 : (((((rA a) &&& (15 : Int32)) + ((v ^^^ (-1 : Int32)) &&& (15 : Int32))) + (1 : Int32)) - (F 16)) ≤ (15 : Int32) <;> by_cases h2 : 0 ≤ (((rA a) - v) - (F 16))
  · rw [if_pos h1, if_pos h2, if_pos h1, if_pos h2]; rfl
  · rw [if_pos h1, if_neg h2, if_pos h1, if_neg h2]; rfl
  · rw [if_neg h1, if_pos h2, if_neg h1, if_pos h2]; rfl
  · rw [if_neg h1, if_neg h2, if_neg h1, if_neg h2]; rfl
theorem rAlu_7 (F : Nat → Int32) (a : Nat → Nat → Int32) (v : Int32) : rAlu F a (nI 7) v = (rSigns (upd (upd F 14 (mH (((((rA a) &&& (15 : Int32)) + ((v ^^^ (-1 : Int32)) &&& (15 : Int32))) + (1 : Int32)) - (0 : Int32)))) 16 (mN (((rA a) - v) - (0 : Int32)))) a ((((rA a) - v) - (0 : Int32)) &&& (255 : Int32)), a) := by
  unfold rAlu mH mN
  refine (if_neg (by decide)).trans ?_
  refine (if_neg (by decide)).trans ?_
  refine (if_pos (by decide)).trans ?_
  refine (if_neg (by decide)).trans ?_
  refine (if_pos (by decide)).trans ?_
  by_cases h1 : (((((rA a) &&& (15 : Int32)) + ((v ^^^ (-1 : Int32)) &&& (15 : Int32))) + (1 : Int32)) - (0 : Int32)) ≤ (15 : Int32) <;> by_cases h2 : 0 ≤ (((rA a) - v) - (0 : Int32))
  · rw [if_pos h1, if_pos h2, if_pos h1, if_pos h2]
  · rw [if_pos h1, if_neg h2, if_pos h1, if_neg h2]
  · rw [if_neg h1, if_pos h2, if_neg h1, if_pos h2]
  · rw [if_neg h1, if_neg h2, if_neg h1, if_neg h2]
theorem rAlu_4 (F : Nat → Int32) (a : Nat → Nat → Int32) (v : Int32) : rAlu F a (nI 4) v = (rSigns (upd (upd F 14 ((((rA a) ||| v) >>> ((3 : Int32) &&& 31)) &&& (1 : Int32))) 16 (0 : Int32)) a (((rA a) &&& v) &&& (255 : Int32)), rPut a (((rA a) &&& v) &&& (255 : Int32))) := by
  unfold rAlu
  refine (if_neg (by decide)).trans ?_
  refine (if_neg (by decide)).trans ?_
  refine (if_pos (by decide)).trans ?_
  refine (if_neg (by decide)).trans ?_
  refine (if_neg (by decide)).trans ?_
  exact if_pos (by decide)
theorem rAlu_5 (F : Nat → Int32) (a : Nat → Nat → Int32) (v : Int32) : rAlu F a (nI 5) v = (rSigns (upd (upd F 14 (0 : Int32)) 16 (0 : Int32)) a (((rA a) ^^^ v) &&& (255 : Int32)), rPut a (((rA a) ^^^ v) &&& (255 : Int32))) := by
  unfold rAlu
  refine (if_neg (by decide)).trans ?_
  refine (if_neg (by decide)).trans ?_
  refine (if_pos (by decide)).trans ?_
  refine (if_neg (by decide)).trans ?_
  refine (if_neg (by decide)).trans ?_
  refine (if_neg (by decide)).trans ?_
  exact if_pos (by decide)
theorem rAlu_6 (F : Nat → Int32) (a : Nat → Nat → Int32) (v : Int32) : rAlu F a (nI 6) v = (rSigns (upd (upd F 14 (0 : Int32)) 16 (0 : Int32)) a (((rA a) ||| v) &&& (255 : Int32)), rPut a (((rA a) ||| v) &&& (255 : Int32))) := by
  unfold rAlu
  refine (if_neg (by decide)).trans ?_
  refine (if_neg (by decide)).trans ?_
  refine (if_pos (by decide)).trans ?_
  refine (if_neg (by decide)).trans ?_
  refine (if_neg (by decide)).trans ?_
  refine (if_neg (by decide)).trans ?_
  refine (if_neg (by decide)).trans ?_
  exact if_neg (by decide)
