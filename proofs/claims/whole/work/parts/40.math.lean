/-! the last quarter of the codes -/
theorem OkA.push {f : Nat → Int32} {a : Nat → Nat → Int32} (h : OkA a) (v : Int32) : OkA (xPush f a v).2 := by
  show OkA (ua a 1 (xWrite (ua a 1 (xWrite a _ v)) _ _))
  exact h.ram (by_write (a := ua a 1 _) (by_write h.2.1 _ _) _ _)
theorem m_pushR {c : Int32} {g f F : Nat → Int32} {a : Nat → Nat → Int32} (h : Si c g f F) (hA : OkA a) (v : Int32) : Rel c g (xPush f a v) (rPush F a v) := by
  obtain ⟨q1, q2⟩ := m_push (a := a) h v
  exact ⟨q1.symm, q2, q1 ▸ hA.push v⟩
theorem m_bitk (r : Int32) (k : Int32) (e : ((255 : Int32) >>> k) &&& (1 : Int32) = 1) : (r >>> k) &&& (1 : Int32) = ((r &&& (255 : Int32)) >>> k) &&& (1 : Int32) := by
  rw [Int32.shiftRight_and, Int32.and_assoc, e]
theorem m_psw0 : ∀ n : Fin 256, (((((((nI n.val >>> ((7 : Int32) &&& 31)) &&& (1 : Int32)) <<< ((7 : Int32) &&& 31)) ||| (((nI n.val >>> ((6 : Int32) &&& 31)) &&& (1 : Int32)) <<< ((6 : Int32) &&& 31))) ||| (((nI n.val >>> ((4 : Int32) &&& 31)) &&& (1 : Int32)) <<< ((4 : Int32) &&& 31))) ||| (((nI n.val >>> ((2 : Int32) &&& 31)) &&& (1 : Int32)) <<< ((2 : Int32) &&& 31))) ||| (2 : Int32)) ||| (nI n.val &&& (1 : Int32)) = (nI n.val &&& (213 : Int32)) ||| (2 : Int32) := by decide +kernel
theorem m_psw (r : Int32) : (((((((r >>> ((7 : Int32) &&& 31)) &&& (1 : Int32)) <<< ((7 : Int32) &&& 31)) ||| (((r >>> ((6 : Int32) &&& 31)) &&& (1 : Int32)) <<< ((6 : Int32) &&& 31))) ||| (((r >>> ((4 : Int32) &&& 31)) &&& (1 : Int32)) <<< ((4 : Int32) &&& 31))) ||| (((r >>> ((2 : Int32) &&& 31)) &&& (1 : Int32)) <<< ((2 : Int32) &&& 31))) ||| (2 : Int32)) ||| (r &&& (1 : Int32)) = (r &&& (213 : Int32)) ||| (2 : Int32) := by
  obtain ⟨n, hn, e⟩ := By.of r
  have q := m_psw0 ⟨n, hn⟩
  rw [m_bitk r ((7 : Int32) &&& 31) (by decide), m_bitk r ((6 : Int32) &&& 31) (by decide), m_bitk r ((4 : Int32) &&& 31) (by decide), m_bitk r ((2 : Int32) &&& 31) (by decide), ← m_andand r 255 1 1 (by decide), ← m_andand r 255 213 213 (by decide), e]
  exact q
theorem m_setFl {c : Int32} {g f F : Nat → Int32} (a : Nat → Nat → Int32) (h : Si c g f F) (r : Int32) : Si c g (upd f 11 ((r &&& (213 : Int32)) ||| (2 : Int32))) (rSetFlags F a r) := by
  refine h.fl (fun k hk => ?_) ?_ ?_
  · show upd (upd (upd (upd (upd F 12 _) 13 _) 14 _) 15 _) 16 _ k = F k
    rw [m_un _ _ (by omega), m_un _ _ (by omega), m_un _ _ (by omega), m_un _ _ (by omega), m_un _ _ (by omega)]
  · exact ⟨Bt.of _, Bt.of _, Bt.of _, Bt.of _, Bt.of _⟩
  · exact (m_psw r).symm
def popN (y : Nat) : Int32 := if y = 5 then (5 : Int32) else if y = 7 then (5 : Int32) else (10 : Int32)
theorem m_pops {c : Int32} {g f F : Nat → Int32} {a : Nat → Nat → Int32} (h : Si c g f F) (hA : OkA a) {y : Nat} (hy : y < 8) (r : Int32 × (Nat → Int32) × (Nat → Nat → Int32))
    (hr : r = if nI y &&& (1 : Int32) = 0 then rPopped F a (nI y >>> ((1 : Int32) &&& 31)) else ((rOdd F a (nI y)).1, (rOdd F a (nI y)).2, a)) : Rel c g (xPopOrReturn f a (nI y)) r.2 ∧ r.1 = popN y := by
  subst hr
  have hy8 : y = 0 ∨ y = 1 ∨ y = 2 ∨ y = 3 ∨ y = 4 ∨ y = 5 ∨ y = 6 ∨ y = 7 := by omega
  unfold xPopOrReturn rPopped rOdd
  rcases hy8 with rfl | rfl | rfl | rfl | rfl | rfl | rfl | rfl
  · rw [if_neg (by decide), if_neg (by decide), if_neg (by decide), if_neg (by decide), if_neg (by decide), if_pos (by decide)]
    obtain ⟨n1, n2⟩ := m_pop (a := a) h
    have hw : Wd (xPop f a).1 ∧ By ((xPop f a).1 >>> ((8 : Int32) &&& 31)) := by
      obtain ⟨q1, q2, _⟩ := m_wC (by_read hA (f 0 + (1 : Int32))) (by_read hA (f 0))
      exact ⟨q1, by rw [show (xPop f a).1 >>> ((8 : Int32) &&& 31) = _ from q2]; exact by_read hA _⟩
    generalize xPop f a = X at n1 n2 hw ⊢
    generalize rPop F a = Y at n1 n2 ⊢
    obtain ⟨w, f1⟩ := X
    obtain ⟨w', F1⟩ := Y
    dsimp only at n1 n2 hw
    subst n1
    dsimp only
    rw [if_neg (by decide), show nI 0 >>> ((1 : Int32) &&& 31) = nI 0 from by decide, m_setPairAt (f := f1) (by decide)]
    exact ⟨⟨rfl, n2, ok_pair (f := f1) hA _ _⟩, rfl⟩
  · rw [if_pos (by decide), if_neg (by decide)]
    rw [if_neg (by decide)]
    obtain ⟨n1, n2⟩ := m_pop (a := a) h
    have hw : Wd (xPop f a).1 ∧ By ((xPop f a).1 >>> ((8 : Int32) &&& 31)) := by
      obtain ⟨q1, q2, _⟩ := m_wC (by_read hA (f 0 + (1 : Int32))) (by_read hA (f 0))
      exact ⟨q1, by rw [show (xPop f a).1 >>> ((8 : Int32) &&& 31) = _ from q2]; exact by_read hA _⟩
    generalize xPop f a = X at n1 n2 hw ⊢
    generalize rPop F a = Y at n1 n2 ⊢
    obtain ⟨w, f1⟩ := X
    obtain ⟨w', F1⟩ := Y
    dsimp only at n1 n2 hw
    subst n1
    dsimp only
    exact ⟨⟨rfl, n2.u1 _, hA⟩, rfl⟩
  · rw [if_neg (by decide), if_neg (by decide), if_neg (by decide), if_neg (by decide), if_neg (by decide), if_pos (by decide)]
    obtain ⟨n1, n2⟩ := m_pop (a := a) h
    have hw : Wd (xPop f a).1 ∧ By ((xPop f a).1 >>> ((8 : Int32) &&& 31)) := by
      obtain ⟨q1, q2, _⟩ := m_wC (by_read hA (f 0 + (1 : Int32))) (by_read hA (f 0))
      exact ⟨q1, by rw [show (xPop f a).1 >>> ((8 : Int32) &&& 31) = _ from q2]; exact by_read hA _⟩
    generalize xPop f a = X at n1 n2 hw ⊢
    generalize rPop F a = Y at n1 n2 ⊢
    obtain ⟨w, f1⟩ := X
    obtain ⟨w', F1⟩ := Y
    dsimp only at n1 n2 hw
    subst n1
    dsimp only
    rw [if_neg (by decide), show nI 2 >>> ((1 : Int32) &&& 31) = nI 1 from by decide, m_setPairAt (f := f1) (by decide)]
    exact ⟨⟨rfl, n2, ok_pair (f := f1) hA _ _⟩, rfl⟩
  · rw [if_neg (by decide), if_pos (by decide), if_neg (by decide)]
    rw [if_neg (by decide)]
    obtain ⟨n1, n2⟩ := m_pop (a := a) h
    have hw : Wd (xPop f a).1 ∧ By ((xPop f a).1 >>> ((8 : Int32) &&& 31)) := by
      obtain ⟨q1, q2, _⟩ := m_wC (by_read hA (f 0 + (1 : Int32))) (by_read hA (f 0))
      exact ⟨q1, by rw [show (xPop f a).1 >>> ((8 : Int32) &&& 31) = _ from q2]; exact by_read hA _⟩
    generalize xPop f a = X at n1 n2 hw ⊢
    generalize rPop F a = Y at n1 n2 ⊢
    obtain ⟨w, f1⟩ := X
    obtain ⟨w', F1⟩ := Y
    dsimp only at n1 n2 hw
    subst n1
    dsimp only
    exact ⟨⟨rfl, n2.u1 _, hA⟩, rfl⟩
  · rw [if_neg (by decide), if_neg (by decide), if_neg (by decide), if_neg (by decide), if_neg (by decide), if_pos (by decide)]
    obtain ⟨n1, n2⟩ := m_pop (a := a) h
    have hw : Wd (xPop f a).1 ∧ By ((xPop f a).1 >>> ((8 : Int32) &&& 31)) := by
      obtain ⟨q1, q2, _⟩ := m_wC (by_read hA (f 0 + (1 : Int32))) (by_read hA (f 0))
      exact ⟨q1, by rw [show (xPop f a).1 >>> ((8 : Int32) &&& 31) = _ from q2]; exact by_read hA _⟩
    generalize xPop f a = X at n1 n2 hw ⊢
    generalize rPop F a = Y at n1 n2 ⊢
    obtain ⟨w, f1⟩ := X
    obtain ⟨w', F1⟩ := Y
    dsimp only at n1 n2 hw
    subst n1
    dsimp only
    rw [if_neg (by decide), show nI 4 >>> ((1 : Int32) &&& 31) = nI 2 from by decide, m_setPairAt (f := f1) (by decide)]
    exact ⟨⟨rfl, n2, ok_pair (f := f1) hA _ _⟩, rfl⟩
  · rw [if_neg (by decide), if_neg (by decide), if_pos (by decide), if_neg (by decide)]
    rw [if_pos (by decide), if_pos (by decide)]
    exact ⟨⟨rfl, h.u1 _, hA⟩, rfl⟩
  · rw [if_neg (by decide), if_neg (by decide), if_neg (by decide), if_pos (by decide), if_pos (by decide)]
    obtain ⟨n1, n2⟩ := m_pop (a := a) h
    have hw : Wd (xPop f a).1 ∧ By ((xPop f a).1 >>> ((8 : Int32) &&& 31)) := by
      obtain ⟨q1, q2, _⟩ := m_wC (by_read hA (f 0 + (1 : Int32))) (by_read hA (f 0))
      exact ⟨q1, by rw [show (xPop f a).1 >>> ((8 : Int32) &&& 31) = _ from q2]; exact by_read hA _⟩
    generalize xPop f a = X at n1 n2 hw ⊢
    generalize rPop F a = Y at n1 n2 ⊢
    obtain ⟨w, f1⟩ := X
    obtain ⟨w', F1⟩ := Y
    dsimp only at n1 n2 hw
    subst n1
    dsimp only
    rw [if_pos (by decide)]
    have e := hw.2.mask
    unfold xSetStatusWord
    dsimp only
    rw [e]
    exact ⟨⟨rfl, m_setFl a n2 _, hA.reg _ hw.2⟩, rfl⟩
  · rw [if_neg (by decide), if_neg (by decide), if_neg (by decide), if_neg (by decide), if_pos (by decide), if_neg (by decide)]
    rw [if_pos (by decide), if_neg (by decide)]
    exact ⟨⟨rfl, h.u0 (hA.hl F), hA⟩, rfl⟩
def highN (y z : Nat) : Int32 := if z = 0 then (5 : Int32) else if z = 1 then popN y else if z = 2 then (10 : Int32) else if z = 3 then sglN y else if z = 4 then (11 : Int32) else if z = 5 then (if y % 2 = 0 then (11 : Int32) else (17 : Int32)) else if z = 6 then (7 : Int32) else (11 : Int32)
theorem m_hcut0 : ∀ y z : Fin 8, nI (192 + 8 * y.val + z.val) &&& (7 : Int32) = nI z.val ∧ (nI (192 + 8 * y.val + z.val) >>> ((3 : Int32) &&& 31)) &&& (7 : Int32) = nI y.val := by decide +kernel
theorem m_hcut {y z : Nat} (hy : y < 8) (hz : z < 8) : nI (192 + 8 * y + z) &&& (7 : Int32) = nI z ∧ (nI (192 + 8 * y + z) >>> ((3 : Int32) &&& 31)) &&& (7 : Int32) = nI y := m_hcut0 ⟨y, hy⟩ ⟨z, hz⟩
theorem m_highX {c : Int32} {g f F : Nat → Int32} {a : Nat → Nat → Int32} (h : Si c g f F) (hA : OkA a) (h3 : F 3 = 0) (h17 : F 17 = c) {y z : Nat} (hy : y < 8) (hz : z < 8) : Rel c g (xExecuteHigh f a (nI (192 + 8 * y + z))).2 (rHigh F a (nI y) (nI z)).2 ∧ highN y z + (xExecuteHigh f a (nI (192 + 8 * y + z))).1 = (rHigh F a (nI y) (nI z)).1 := by
  obtain ⟨c1, c2⟩ := m_hcut hy hz
  obtain ⟨_, _, c5, c6⟩ := m_cut hy hz
  have hh := m_holds (a := a) h hy
  unfold xExecuteHigh rHigh
  rw [c1, c2]
  have hz8 : z = 0 ∨ z = 1 ∨ z = 2 ∨ z = 3 ∨ z = 4 ∨ z = 5 ∨ z = 6 ∨ z = 7 := by omega
  rcases hz8 with rfl | rfl | rfl | rfl | rfl | rfl | rfl | rfl
  · rw [if_pos (by decide), if_pos (by decide)]
    rw [hh]
    unfold xReturnIf
    by_cases q : rHolds F a (nI y) = 0
    · rw [if_pos q, if_pos q]
      exact ⟨⟨rfl, h, hA⟩, (by decide : (5 : Int32) + (0 : Int32) = (5 : Int32))⟩
    · rw [if_neg q, if_neg q]
      obtain ⟨n1, n2⟩ := m_pop (a := a) h
      have hw : Wd (xPop f a).1 ∧ By ((xPop f a).1 >>> ((8 : Int32) &&& 31)) := by
        obtain ⟨q1, q2, _⟩ := m_wC (by_read hA (f 0 + (1 : Int32))) (by_read hA (f 0))
        exact ⟨q1, by rw [show (xPop f a).1 >>> ((8 : Int32) &&& 31) = _ from q2]; exact by_read hA _⟩
      generalize xPop f a = X at n1 n2 hw ⊢
      generalize rPop F a = Y at n1 n2 ⊢
      obtain ⟨w, f1⟩ := X
      obtain ⟨w', F1⟩ := Y
      dsimp only at n1 n2 hw
      subst n1
      dsimp only
      exact ⟨⟨rfl, n2.u1 _, hA⟩, (by decide : (5 : Int32) + (6 : Int32) = (11 : Int32))⟩
  · rw [if_neg (by decide), if_pos (by decide), if_neg (by decide), if_pos (by decide)]
    have q := m_pops h hA hy _ rfl
    by_cases e : nI y &&& (1 : Int32) = 0
    · rw [if_pos e] at q ⊢
      exact ⟨q.1, (Int32.add_zero _).trans q.2.symm⟩
    · rw [if_neg e] at q ⊢
      exact ⟨q.1, (Int32.add_zero _).trans q.2.symm⟩
  · rw [if_neg (by decide), if_neg (by decide), if_pos (by decide), if_neg (by decide), if_neg (by decide), if_pos (by decide)]
    rw [hh]
    unfold xJumpIf
    have hy2 := fun (f1 F1 : Nat → Int32) (q : Si c g f1 F1) => m_holds (a := a) q hy
    obtain ⟨n1, n2⟩ := m_nextTwo (a := a) h
    have hf : (xFetchWord f a).2 11 = f 11 := rfl
    generalize xFetchWord f a = X at n1 n2 hf ⊢
    generalize rNextTwo F a = Y at n1 n2 ⊢
    obtain ⟨w, f1⟩ := X
    obtain ⟨w', F1⟩ := Y
    dsimp only at n1 n2 hf
    subst n1
    dsimp only
    have e : rHolds F1 a (nI y) = rHolds F a (nI y) := by rw [← hh, ← hy2 f1 F1 n2]; exact xHolds_c a _ hf
    rw [e]
    by_cases q : rHolds F a (nI y) = 0
    · rw [if_pos q, if_pos q, upd_id]
      exact ⟨⟨rfl, n2, hA⟩, (by decide : (10 : Int32) + (0 : Int32) = (10 : Int32))⟩
    · rw [if_neg q, if_neg q]
      exact ⟨⟨rfl, n2.u1 _, hA⟩, (by decide : (10 : Int32) + (0 : Int32) = (10 : Int32))⟩
  · rw [if_neg (by decide), if_neg (by decide), if_neg (by decide), if_pos (by decide), if_neg (by decide), if_neg (by decide), if_neg (by decide), if_pos (by decide)]
    have q := m_single h hA h3 h17 hy
    exact ⟨q.1, (Int32.add_zero _).trans q.2.symm⟩
  · rw [if_neg (by decide), if_neg (by decide), if_neg (by decide), if_neg (by decide), if_pos (by decide), if_neg (by decide), if_neg (by decide), if_neg (by decide), if_neg (by decide), if_pos (by decide)]
    rw [hh]
    unfold xCallIf
    have hy2 := fun (f1 F1 : Nat → Int32) (q : Si c g f1 F1) => m_holds (a := a) q hy
    obtain ⟨n1, n2⟩ := m_nextTwo (a := a) h
    have hf : (xFetchWord f a).2 11 = f 11 := rfl
    generalize xFetchWord f a = X at n1 n2 hf ⊢
    generalize rNextTwo F a = Y at n1 n2 ⊢
    obtain ⟨w, f1⟩ := X
    obtain ⟨w', F1⟩ := Y
    dsimp only at n1 n2 hf
    subst n1
    dsimp only
    have e : rHolds F1 a (nI y) = rHolds F a (nI y) := by rw [← hh, ← hy2 f1 F1 n2]; exact xHolds_c a _ hf
    rw [e]
    by_cases q : rHolds F a (nI y) = 0
    · rw [if_pos q, if_pos q]
      exact ⟨⟨rfl, n2, hA⟩, (by decide : (11 : Int32) + (0 : Int32) = (11 : Int32))⟩
    · rw [if_neg q, if_neg q]
      obtain ⟨p1, p2, p3⟩ := m_pushR n2 hA (f1 1)
      unfold rCall
      rw [← n2.s1]
      exact ⟨⟨p1, p2.u1 _, p3⟩, (by decide : (11 : Int32) + (6 : Int32) = (17 : Int32))⟩
  · rw [if_neg (by decide), if_neg (by decide), if_neg (by decide), if_neg (by decide), if_neg (by decide), if_pos (by decide)]
    rw [c6]
    by_cases e : y % 2 = 0
    · rw [e, if_pos (by decide)]
      by_cases q : nI y = (6 : Int32)
      · rw [if_pos q, if_neg (by decide), if_neg (by decide), if_neg (by decide), if_neg (by decide), if_neg (by decide), if_pos (by decide), if_neg (by decide), if_pos q]
        have e1 : xStatusWord f a = (((a 2) (7 : Int32).toNatClampNeg) <<< ((8 : Int32) &&& 31)) ||| (rFlags F a) := by unfold xStatusWord; rw [h.s11]; rfl
        rw [e1]
        exact ⟨m_pushR h hA _, by rw [show highN y 5 = (11 : Int32) from if_pos e]; exact (by decide : (11 : Int32) + (0 : Int32) = (11 : Int32))⟩
      · rw [if_neg q, if_neg (by decide), if_neg (by decide), if_neg (by decide), if_neg (by decide), if_neg (by decide), if_pos (by decide), if_neg (by decide), if_neg q]
        have e1 : xPairAt f a (nI y) = rPair F a (nI y >>> ((1 : Int32) &&& 31)) := by
          have hy3 : y = 0 ∨ y = 2 ∨ y = 4 := by
            have : y ≠ 6 := fun z => q (by rw [z]; rfl)
            omega
          rcases hy3 with rfl | rfl | rfl <;> rfl
        rw [e1]
        exact ⟨m_pushR h hA _, by rw [show highN y 5 = (11 : Int32) from if_pos e]; exact (by decide : (11 : Int32) + (0 : Int32) = (11 : Int32))⟩
    · rw [(by omega : y % 2 = 1), if_neg (by decide), if_neg (by decide), if_neg (by decide), if_neg (by decide), if_neg (by decide), if_neg (by decide), if_pos (by decide), if_pos (by decide)]
      unfold xCallIf
      obtain ⟨n1, n2⟩ := m_nextTwo (a := a) h
      have hf : (xFetchWord f a).2 11 = f 11 := rfl
      generalize xFetchWord f a = X at n1 n2 hf ⊢
      generalize rNextTwo F a = Y at n1 n2 ⊢
      obtain ⟨w, f1⟩ := X
      obtain ⟨w', F1⟩ := Y
      dsimp only at n1 n2 hf
      subst n1
      dsimp only
      rw [if_neg (by decide)]
      obtain ⟨p1, p2, p3⟩ := m_pushR n2 hA (f1 1)
      unfold rCall
      rw [← n2.s1]
      exact ⟨⟨p1, p2.u1 _, p3⟩, by rw [show highN y 5 = (17 : Int32) from if_neg e]; exact (by decide : (17 : Int32) + (0 : Int32) = (17 : Int32))⟩
  · rw [if_neg (by decide), if_neg (by decide), if_neg (by decide), if_neg (by decide), if_neg (by decide), if_neg (by decide), if_pos (by decide), if_neg (by decide), if_neg (by decide), if_neg (by decide), if_neg (by decide), if_neg (by decide), if_neg (by decide), if_pos (by decide)]
    obtain ⟨n1, n2⟩ := m_next (a := a) h
    have hb : By (xFetch f a).1 := by_read hA _
    generalize xFetch f a = X at n1 n2 hb ⊢
    generalize rNext F a = Y at n1 n2 ⊢
    obtain ⟨w, f1⟩ := X
    obtain ⟨w', F1⟩ := Y
    dsimp only at n1 n2 hb
    subst n1
    dsimp only
    have q := m_calc n2 hA (nI y) hb
    rw [j7 hy] at q
    exact ⟨q, (by decide : (7 : Int32) + (0 : Int32) = (7 : Int32))⟩
  · rw [if_neg (by decide), if_neg (by decide), if_neg (by decide), if_neg (by decide), if_neg (by decide), if_neg (by decide), if_neg (by decide), if_neg (by decide), if_neg (by decide), if_neg (by decide), if_neg (by decide), if_neg (by decide), if_neg (by decide), if_neg (by decide)]
    obtain ⟨p1, p2, p3⟩ := m_pushR h hA (f 1)
    rw [← h.s1]
    exact ⟨⟨p1, p2.u1 _, p3⟩, (by decide : (11 : Int32) + (0 : Int32) = (11 : Int32))⟩
