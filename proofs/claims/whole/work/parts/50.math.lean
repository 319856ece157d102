/-! a frame on the screen: what lies on it -/
theorem lq_sum (p q : Int32) : (p.toInt64 + q.toInt64).toInt = p.toInt + q.toInt := by
  have h1 := p.toInt_lt
  have h2 := p.le_toInt
  have h3 := q.toInt_lt
  have h4 := q.le_toInt
  rw [Int64.toInt_add, Int32.toInt_toInt64, Int32.toInt_toInt64, Int.bmod_eq_of_le (by omega) (by omega)]
theorem lq_cmp (x y : Int64) : 0 ≤ lg_cmp x y ↔ y.toInt ≤ x.toInt := by
  unfold lg_cmp
  by_cases q : x > y
  · rw [if_pos q]
    have := Int64.lt_iff_toInt_lt.mp q
    exact ⟨fun _ => by omega, fun _ => by decide⟩
  · rw [if_neg q]
    have q2 : ¬ y.toInt < x.toInt := fun z => q (Int64.lt_iff_toInt_lt.mpr z)
    by_cases e : x = y
    · rw [if_pos e, e]
      exact ⟨fun _ => Int.le_refl _, fun _ => by decide⟩
    · rw [if_neg e]
      have e2 : ¬ x.toInt = y.toInt := fun z => e (Int64.toInt_inj.mp z)
      exact ⟨fun z => absurd z (by decide), fun z => by omega⟩
theorem lq_nI {k : Nat} (hk : k < 2 ^ 31) : (nI k).toInt64.toInt = (k : Int) := by rw [Int32.toInt_toInt64, nI_toInt hk]
theorem lq_lt {k : Nat} (hk : k < 2 ^ 31) (p : Int32) : nI k < p ↔ (k : Int) < p.toInt := by rw [Int32.lt_iff_toInt_lt, nI_toInt hk]
/-- the reference's column -/
abbrev inF (P W : Int) (k : Nat) : Prop := P ≤ (k : Int) ∧ (k : Int) < P + W
theorem m_litI (F : Nat → Int32) {a : Nat → Nat → Int32} (hA : OkA a) (p1 p2 p3 p4 : Int32) {x : Nat} (hx : x < 224) : ∀ (n k sm : Nat), k + n ≤ 256 → rLitI F a p1 p2 p3 p4 (nI x) n k (nI sm) = nI (sm + sf (fun y => if inF p1.toInt p3.toInt x ∧ inF p2.toInt p4.toInt y then sb a x (255 - y) else 0) n k) := by
  intro n
  induction n with
  | zero => intro k sm _; rfl
  | succ n ih =>
    intro k sm h
    have e : (if nI x < p1 then nI sm + (0 : Int32)
  else if 0 ≤ (lg_cmp (nI x).toInt64 (p1.toInt64 + p3.toInt64)) then nI sm + (0 : Int32)
    else if (nI k) < p2 then nI sm + (0 : Int32)
      else if 0 ≤ (lg_cmp ((nI k).toInt64) (p2.toInt64 + p4.toInt64)) then nI sm + (0 : Int32)
        else nI sm + (rBit F a (nI x) (nI k))) = nI (sm + (if inF p1.toInt p3.toInt x ∧ inF p2.toInt p4.toInt k then sb a x (255 - k) else 0)) := by
      have c1 := lq_lt (k := x) (by omega) p1
      have c2 := lq_cmp (nI x).toInt64 (p1.toInt64 + p3.toInt64)
      have c3 := lq_lt (k := k) (by omega) p2
      have c4 := lq_cmp (nI k).toInt64 (p2.toInt64 + p4.toInt64)
      rw [lq_sum, lq_nI (by omega)] at c2 c4
      rw [Int32.add_zero, m_rBit F hA hx (by omega)]
      by_cases q1 : nI x < p1
      · rw [if_pos q1, if_neg (by unfold inF; have := c1.mp q1; omega), Nat.add_zero]
      rw [if_neg q1]
      by_cases q2 : 0 ≤ lg_cmp (nI x).toInt64 (p1.toInt64 + p3.toInt64)
      · rw [if_pos q2, if_neg (by unfold inF; have := c2.mp q2; omega), Nat.add_zero]
      rw [if_neg q2]
      by_cases q3 : nI k < p2
      · rw [if_pos q3, if_neg (by unfold inF; have := c3.mp q3; omega), Nat.add_zero]
      rw [if_neg q3]
      by_cases q4 : 0 ≤ lg_cmp (nI k).toInt64 (p2.toInt64 + p4.toInt64)
      · rw [if_pos q4, if_neg (by unfold inF; have := c4.mp q4; omega), Nat.add_zero]
      rw [if_neg q4, nI_add, if_pos]
      unfold inF
      have d1 : ¬ (x : Int) < p1.toInt := fun z => q1 (c1.mpr z)
      have d2 : ¬ p1.toInt + p3.toInt ≤ (x : Int) := fun z => q2 (c2.mpr z)
      have d3 : ¬ (k : Int) < p2.toInt := fun z => q3 (c3.mpr z)
      have d4 : ¬ p2.toInt + p4.toInt ≤ (k : Int) := fun z => q4 (c4.mpr z)
      omega
    unfold rLitI
    rw [e, ih (k + 1) _ (by omega), Nat.add_assoc]
    rfl
theorem m_litO (F : Nat → Int32) {a : Nat → Nat → Int32} (hA : OkA a) (p1 p2 p3 p4 : Int32) : ∀ (n k sm : Nat), k + n ≤ 224 → rLitO F a p1 p2 p3 p4 n k (nI sm) = nI (sm + sf (fun x => sf (fun y => if inF p1.toInt p3.toInt x ∧ inF p2.toInt p4.toInt y then sb a x (255 - y) else 0) 256 0) n k) := by
  intro n
  induction n with
  | zero => intro k sm _; rfl
  | succ n ih =>
    intro k sm h
    unfold rLitO
    rw [m_litI F hA p1 p2 p3 p4 (x := k) (by omega) 256 0 sm (by omega), ih (k + 1) _ (by omega), Nat.add_assoc]
    rfl
/-- the class's columns -/
theorem m_litL {a : Nat → Nat → Int32} (hA : OkA a) {rt tp bt : Nat} (hr : rt ≤ 224) (ht : tp ≤ 256) (hb : bt ≤ 256) : ∀ (n k sm : Nat), k + n ≤ 1000 → xLitL a (nI rt) (nI tp) (nI bt) n k (nI sm) = nI (sm + sf (fun x => if x < rt then sf (colB a x (256 - bt) (256 - tp)) 256 0 else 0) n k) := by
  intro n
  induction n with
  | zero => intro k sm _; rfl
  | succ n ih =>
    intro k sm h
    unfold xLitL
    by_cases q : rt ≤ k
    · rw [if_pos (nI_le q (by omega)), sf_zero (n + 1) k (fun i hi => if_neg (by omega)), Nat.add_zero]
    · rw [if_neg (nI_ge (by omega) (by omega)), m_dots hA (by omega) ht hb, nI_add, ih (k + 1) _ (by omega), Nat.add_assoc]
      refine congrArg (fun z => nI (sm + z)) ?_
      show _ = (if k < rt then sf (colB a k (256 - bt) (256 - tp)) 256 0 else 0) + sf _ n (k + 1)
      rw [if_pos (by omega)]
theorem m_litO0 (F : Nat → Int32) {a : Nat → Nat → Int32} (hA : OkA a) (p1 p2 p3 p4 : Int32) {n : Nat} (h : n ≤ 224) : rLitO F a p1 p2 p3 p4 n 0 (0 : Int32) = nI (sf (fun x => sf (fun y => if inF p1.toInt p3.toInt x ∧ inF p2.toInt p4.toInt y then sb a x (255 - y) else 0) 256 0) n 0) := by
  have o := m_litO F hA p1 p2 p3 p4 n 0 0 (by omega)
  rw [Nat.zero_add] at o
  exact o
theorem m_litL0 {a : Nat → Nat → Int32} (hA : OkA a) {rt tp bt : Nat} (hr : rt ≤ 224) (ht : tp ≤ 256) (hb : bt ≤ 256) {n k : Nat} (h : k + n ≤ 1000) : xLitL a (nI rt) (nI tp) (nI bt) n k (0 : Int32) = nI (sf (fun x => if x < rt then sf (colB a x (256 - bt) (256 - tp)) 256 0 else 0) n k) := by
  have o := m_litL hA (rt := rt) (tp := tp) (bt := bt) hr ht hb n k 0 h
  rw [Nat.zero_add] at o
  exact o
/-- lit -/
theorem m_lit (g f F : Nat → Int32) {a : Nat → Nat → Int32} (hA : OkA a) (p1 p2 p3 p4 : Int32) : rLit F a p1 p2 p3 p4 = (xLit g f a p1 p2 p3 p4, upd F 11 (0 : Int32)) := by
  unfold rLit xLit
  have e1 : xOn p1.toInt64 (224 : Int32) = nI (min ((224 : Nat) : Int) p1.toInt).toNat := by rw [← Int32.toInt_toInt64 p1]; exact xOn_int _ (n := 224) (by decide)
  have e2 : xOn (p1.toInt64 + p3.toInt64) (224 : Int32) = nI (min ((224 : Nat) : Int) (p1.toInt + p3.toInt)).toNat := by rw [← lq_sum]; exact xOn_int _ (n := 224) (by decide)
  have e3 : xOn p2.toInt64 (256 : Int32) = nI (min ((256 : Nat) : Int) p2.toInt).toNat := by rw [← Int32.toInt_toInt64 p2]; exact xOn_int _ (n := 256) (by decide)
  have e4 : xOn (p2.toInt64 + p4.toInt64) (256 : Int32) = nI (min ((256 : Nat) : Int) (p2.toInt + p4.toInt)).toNat := by rw [← lq_sum]; exact xOn_int _ (n := 256) (by decide)
  rw [e1, e2, e3, e4]
  generalize hl : (min ((224 : Nat) : Int) p1.toInt).toNat = l
  generalize hr : (min ((224 : Nat) : Int) (p1.toInt + p3.toInt)).toNat = r
  generalize ht : (min ((256 : Nat) : Int) p2.toInt).toNat = tp
  generalize hb : (min ((256 : Nat) : Int) (p2.toInt + p4.toInt)).toNat = bt
  have hl2 : l ≤ 224 := by omega
  have hr2 : r ≤ 224 := by omega
  have ht2 : tp ≤ 256 := by omega
  have hb2 : bt ≤ 256 := by omega
  rw [nI_clamp (by omega), m_litO0 _ hA p1 p2 p3 p4 (Nat.le_refl 224), m_litL0 hA hr2 ht2 hb2 (by omega)]
  refine congrArg (fun z => (nI z, upd F 11 (0 : Int32))) ?_
  obtain ⟨d, hd⟩ : ∃ d, 224 = l + d := ⟨224 - l, by omega⟩
  rw [hd, sf_add, sf_zero l 0 (fun i hi => ?_), Nat.zero_add, Nat.zero_add, Nat.add_comm l d, sf_add, sf_zero l (l + d) (fun i hi => if_neg (by omega)), Nat.add_zero]
  · refine sf_ext d l l (fun i hi => ?_)
    by_cases q : l + i < r
    · rw [if_pos q]
      refine sf_rev 256 0 0 (fun j hj => ?_)
      rw [Nat.zero_add, Nat.zero_add, show 256 - 1 - j = 255 - j from by omega]
      unfold colB
      by_cases z : tp ≤ j ∧ j < bt
      · rw [if_pos (by unfold inF; omega), if_pos (by omega)]
      · rw [if_neg (by unfold inF; omega), if_neg (by omega)]
    · rw [if_neg q]
      exact sf_zero 256 0 (fun j hj => if_neg (by unfold inF; omega))
  · exact sf_zero 256 0 (fun j hj => if_neg (by unfold inF; omega))
