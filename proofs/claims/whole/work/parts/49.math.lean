/-! a column's dots -/
def colB (a : Nat → Nat → Int32) (x lo hi j : Nat) : Nat := if lo ≤ j ∧ j < hi then sb a x j else 0
theorem m_fr {lo k : Nat} (hl : lo ≤ 256) (hk : k < 32) : (if (nI lo - ((8 : Int32) * nI k)) < (0 : Int32) then (0 : Int32) else nI lo - ((8 : Int32) * nI k)) = nI (lo - 8 * k) := by
  rw [show (8 : Int32) * nI k = nI (8 * k) from pk_mul 8 k]
  by_cases q : 8 * k ≤ lo
  · rw [pk_sub q, if_neg (nI_pos (by omega))]
  · rw [if_pos (pk_sneg (by omega) (by omega)), show lo - 8 * k = 0 from by omega]; rfl
theorem m_byte {a : Nat → Nat → Int32} (hA : OkA a) {x lo hi k : Nat} (hx : x < 224) (hl : lo ≤ 256) (hh : hi ≤ 256) (hk : k < 32) (sm : Int32) :
    (if (if (8 : Int32) < (nI hi - ((8 : Int32) * (nI k))) then (8 : Int32) else nI hi - ((8 : Int32) * (nI k))) ≤ (if (nI lo - ((8 : Int32) * (nI k))) < (0 : Int32) then (0 : Int32) else nI lo - ((8 : Int32) * (nI k))) then sm
  else sm + (xBitCount ((xRead a (((9216 : Int32) + ((32 : Int32) * nI x)) + (nI k))) &&& (((255 : Int32) <<< ((if (nI lo - ((8 : Int32) * (nI k))) < (0 : Int32) then (0 : Int32) else nI lo - ((8 : Int32) * (nI k))) &&& 31)) &&& ((255 : Int32) >>> (((8 : Int32) - (if (8 : Int32) < (nI hi - ((8 : Int32) * (nI k))) then (8 : Int32) else nI hi - ((8 : Int32) * (nI k)))) &&& 31)))))) = sm + nI (bs (rN a (1024 + 32 * x + k)) (lo - 8 * k) (min 8 (hi - 8 * k))) := by
  obtain ⟨r1, r2⟩ := rN_e hA (1024 + 32 * x + k)
  rw [m_fr hl hk, m_scr hx hk, r1]
  by_cases q : 8 * k ≤ hi
  · have e : (if (8 : Int32) < (nI hi - ((8 : Int32) * (nI k))) then (8 : Int32) else nI hi - ((8 : Int32) * (nI k))) = nI (min 8 (hi - 8 * k)) := by
      rw [show (8 : Int32) * nI k = nI (8 * k) from pk_mul 8 k, pk_sub q]
      have i : ((8 : Int32) < nI (hi - 8 * k)) ↔ 8 < hi - 8 * k := nI_ltI (a := 8) (by omega) (by omega)
      by_cases z : 8 < hi - 8 * k
      · rw [if_pos (i.mpr z), Nat.min_eq_left (by omega)]; rfl
      · rw [if_neg (fun w => z (i.mp w)), Nat.min_eq_right (by omega)]
    rw [e]
    by_cases z : min 8 (hi - 8 * k) ≤ lo - 8 * k
    · rw [if_pos (nI_le z (by omega)), bs_none z, show nI 0 = (0 : Int32) from rfl, Int32.add_zero]
    · rw [if_neg (nI_ge (by omega) (by omega)), m_bs (by omega) (by omega) r2]
  · have e : (if (8 : Int32) < (nI hi - ((8 : Int32) * (nI k))) then (8 : Int32) else nI hi - ((8 : Int32) * (nI k))) = nI hi - nI (8 * k) := by
      rw [show (8 : Int32) * nI k = nI (8 * k) from pk_mul 8 k]
      refine if_neg ?_
      intro w
      exact absurd (Int32.lt_trans w (pk_sneg (by omega) (by omega))) (by decide)
    have ng : nI hi - nI (8 * k) < 0 := pk_sneg (by omega) (by omega)
    have le : nI hi - nI (8 * k) ≤ nI (lo - 8 * k) := Int32.le_trans (Int32.le_of_lt ng) (nI_pos' (by omega))
    rw [e, if_pos le, bs_none (by omega), show nI 0 = (0 : Int32) from rfl, Int32.add_zero]
theorem m_bscol (a : Nat → Nat → Int32) (x lo hi k : Nat) : bs (rN a (1024 + 32 * x + k)) (lo - 8 * k) (min 8 (hi - 8 * k)) = sf (colB a x lo hi) 8 (8 * k) := by
  unfold bs
  refine sf_ext 8 0 (8 * k) (fun i hi8 => ?_)
  rw [Nat.zero_add]
  unfold colB sb
  rw [show (8 * k + i) / 8 = k from by omega, show (8 * k + i) % 8 = i from by omega]
  by_cases q : lo ≤ 8 * k + i ∧ 8 * k + i < hi
  · rw [if_pos q, if_pos (by omega)]
  · rw [if_neg q, if_neg (by omega)]
theorem m_dotsL {a : Nat → Nat → Int32} (hA : OkA a) {x lo hi : Nat} (hx : x < 224) (hl : lo ≤ 256) (hh : hi ≤ 256) : ∀ (n k sm : Nat), k + n ≤ 32 → xDotsL a (nI x) (nI lo) (nI hi) n k (nI sm) = nI (sm + sf (fun q => sf (colB a x lo hi) 8 (8 * q)) n k) := by
  intro n
  induction n with
  | zero => intro k sm _; rfl
  | succ n ih =>
    intro k sm h
    have e := m_byte hA hx hl hh (k := k) (by omega) (nI sm)
    rw [m_bscol, nI_add] at e
    unfold xDotsL
    rw [e, ih (k + 1) _ (by omega), Nat.add_assoc]
    rfl
theorem m_dots {a : Nat → Nat → Int32} (hA : OkA a) {x tp bt : Nat} (hx : x < 224) (ht : tp ≤ 256) (hb : bt ≤ 256) : xDots a (nI x) (nI tp) (nI bt) = nI (sf (colB a x (256 - bt) (256 - tp)) 256 0) := by
  unfold xDots
  rw [show (256 : Int32) - nI bt = nI (256 - bt) from pk_sub (a := 256) hb, show (256 : Int32) - nI tp = nI (256 - tp) from pk_sub (a := 256) ht]
  have e := m_dotsL hA hx (lo := 256 - bt) (hi := 256 - tp) (by omega) (by omega) 32 0 0 (by omega)
  rw [sf_eight, Nat.zero_add] at e
  exact e
/-- dot -/
theorem m_dot {g f F : Nat → Int32} {a : Nat → Nat → Int32} (hA : OkA a) (p1 p2 : Int32) : rDot F a p1 p2 = (xDot g f a p1 p2, upd F 11 (Cd (xDotX g f a p1 p2))) := by
  unfold rDot xDot xDotX
  by_cases q1 : p1 < 0
  · rw [if_pos q1, if_pos q1, if_pos q1]; rfl
  rw [if_neg q1, if_neg q1, if_neg q1]
  obtain ⟨x, hx, rfl⟩ := nI_of q1
  have i1 : ((223 : Int32) < nI x) ↔ 223 < x := nI_ltI (a := 223) (by omega) hx
  have i2 : ((224 : Int32) ≤ nI x) ↔ 224 ≤ x := nI_leI (a := 224) (by omega) hx
  by_cases q2 : 224 ≤ x
  · rw [if_pos (i1.mpr (by omega)), if_pos (i2.mpr q2), if_pos (i2.mpr q2)]; rfl
  rw [if_neg (fun z => q2 (by have := i1.mp z; omega)), if_neg (fun z => q2 (i2.mp z)), if_neg (fun z => q2 (i2.mp z))]
  by_cases q3 : p2 < 0
  · rw [if_pos q3, if_pos q3, if_pos q3]; rfl
  rw [if_neg q3, if_neg q3, if_neg q3]
  obtain ⟨y, hy, rfl⟩ := nI_of q3
  have e : (nI y < (256 : Int32)) ↔ (nI y ≤ (255 : Int32)) := i_lt3 hy 255 (by decide)
  have i3 : (nI y < (256 : Int32)) ↔ y < 256 := nI_ltI (b := 256) hy (by omega)
  by_cases q4 : y < 256
  · rw [if_pos (e.mp (i3.mpr q4)), if_pos (i3.mpr q4), if_pos (i3.mpr q4), m_rBit _ hA (by omega) q4, show nI y + (1 : Int32) = nI (y + 1) from nI_add y 1, m_dots hA (by omega) (by omega) (by omega), sf_one (G := colB a x (256 - (y + 1)) (256 - y)) (c := 255 - y) (n := 256) (by omega) (fun j hj => if_neg (by omega))]
    unfold colB
    rw [if_pos (by omega)]; rfl
  · rw [if_neg (fun z => q4 (i3.mp (e.mpr z))), if_neg (fun z => q4 (i3.mp z)), if_neg (fun z => q4 (i3.mp z))]; rfl
