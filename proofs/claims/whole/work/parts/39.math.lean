/-! conditions -/
theorem m_holds {c : Int32} {g f F : Nat → Int32} {a : Nat → Nat → Int32} (h : Si c g f F) {y : Nat} (hy : y < 8) : xHolds f a (nI y) = rHolds F a (nI y) := by
  have b0 := m_bits h.ok
  have b1 : rFl F &&& (1 : Int32) = 0 ↔ F 16 = 0 := by rw [m_c1 h.ok]
  unfold xHolds rHolds
  rw [h.s11]
  have hy8 : y = 0 ∨ y = 1 ∨ y = 2 ∨ y = 3 ∨ y = 4 ∨ y = 5 ∨ y = 6 ∨ y = 7 := by omega
  rcases hy8 with rfl | rfl | rfl | rfl | rfl | rfl | rfl | rfl
  · rw [if_pos (by decide), if_pos (by decide)]
    rcases h.ok.2.1 with q | q
    · rw [if_pos (b0.1.1.mpr q), if_neg (by decide), q, if_pos (by decide)]
    · rw [if_neg (fun z => absurd (q.symm.trans (b0.1.1.mp z)) (by decide)), if_neg (by decide), q, if_neg (by decide)]
  · rw [if_pos (by decide), if_neg (by decide)]
    rcases h.ok.2.1 with q | q
    · rw [if_pos (b0.1.1.mpr q), if_neg (by decide), q, if_neg (by decide)]
    · rw [if_neg (fun z => absurd (q.symm.trans (b0.1.1.mp z)) (by decide)), if_neg (by decide), q, if_pos (by decide)]
  · rw [if_neg (by decide), if_pos (by decide), if_pos (by decide)]
    rcases h.ok.2.2.2.2 with q | q
    · rw [if_pos (b1.mpr q), if_pos (by decide), if_neg (by decide), q, if_pos (by decide)]
    · rw [if_neg (fun z => absurd (q.symm.trans (b1.mp z)) (by decide)), if_pos (by decide), if_neg (by decide), q, if_neg (by decide)]
  · rw [if_neg (by decide), if_pos (by decide), if_neg (by decide)]
    rcases h.ok.2.2.2.2 with q | q
    · rw [if_pos (b1.mpr q), if_pos (by decide), if_neg (by decide), q, if_neg (by decide)]
    · rw [if_neg (fun z => absurd (q.symm.trans (b1.mp z)) (by decide)), if_pos (by decide), if_neg (by decide), q, if_pos (by decide)]
  · rw [if_neg (by decide), if_neg (by decide), if_pos (by decide), if_pos (by decide)]
    rcases h.ok.2.2.2.1 with q | q
    · rw [if_pos (b0.2.2.mpr q), if_pos (by decide), if_pos (by decide), if_neg (by decide), q, if_pos (by decide)]
    · rw [if_neg (fun z => absurd (q.symm.trans (b0.2.2.mp z)) (by decide)), if_pos (by decide), if_pos (by decide), if_neg (by decide), q, if_neg (by decide)]
  · rw [if_neg (by decide), if_neg (by decide), if_pos (by decide), if_neg (by decide)]
    rcases h.ok.2.2.2.1 with q | q
    · rw [if_pos (b0.2.2.mpr q), if_pos (by decide), if_pos (by decide), if_neg (by decide), q, if_neg (by decide)]
    · rw [if_neg (fun z => absurd (q.symm.trans (b0.2.2.mp z)) (by decide)), if_pos (by decide), if_pos (by decide), if_neg (by decide), q, if_pos (by decide)]
  · rw [if_neg (by decide), if_neg (by decide), if_neg (by decide), if_pos (by decide)]
    rcases h.ok.1 with q | q
    · rw [if_pos (b0.1.2.mpr q), if_pos (by decide), if_pos (by decide), if_pos (by decide), q, if_pos (by decide)]
    · rw [if_neg (fun z => absurd (q.symm.trans (b0.1.2.mp z)) (by decide)), if_pos (by decide), if_pos (by decide), if_pos (by decide), q, if_neg (by decide)]
  · rw [if_neg (by decide), if_neg (by decide), if_neg (by decide), if_neg (by decide)]
    rcases h.ok.1 with q | q
    · rw [if_pos (b0.1.2.mpr q), if_pos (by decide), if_pos (by decide), if_pos (by decide), q, if_neg (by decide)]
    · rw [if_neg (fun z => absurd (q.symm.trans (b0.1.2.mp z)) (by decide)), if_pos (by decide), if_pos (by decide), if_pos (by decide), q, if_pos (by decide)]
theorem xHolds_c {f f' : Nat → Int32} (a : Nat → Nat → Int32) (p : Int32) (e : f' 11 = f 11) : xHolds f' a p = xHolds f a p := by
  unfold xHolds
  rw [e]
theorem upd_id (f : Nat → Int32) (k : Nat) : upd f k (f k) = f := by
  funext j
  by_cases e : j = k
  · subst e; rw [m_us]
  · rw [m_un _ _ e]
/-! ports -/
theorem m_edges (a : Nat → Nat → Int32) (p2 p q : Int32) (e : p &&& (1 : Int32) = q) : ∀ (n k : Nat) (r : Nat → Int32), xRises (p2 &&& (((a 4) q.toNatClampNeg) ^^^ (-1 : Int32))) p n k r = rEdges a p2 q n k r := by
  intro n
  induction n with
  | zero => intro k r; rfl
  | succ n ih =>
    intro k r
    unfold xRises rEdges
    rw [ih, e, Int32.shiftRight_and]
theorem m_latch {c : Int32} {g f F : Nat → Int32} {a : Nat → Nat → Int32} (h : Si c g f F) (hA : OkA a) {p q v : Int32} (e : p &&& (1 : Int32) = q) (hv : By v) : Rel c g (upd (upd (upd f 5 (f 5)) 6 (f 6)) 7 (f 7), ua (ua a 5 (xSetLatch f a p v).1) 4 (xSetLatch f a p v).2) (F, ua (ua a 5 (rEdges a v q 8 0 (a 5))) 4 (upd (a 4) q.toNatClampNeg v)) := by
  unfold xSetLatch
  dsimp only
  rw [e, m_edges a v p q e, upd_id, upd_id, upd_id]
  exact ⟨rfl, h, hA.1, hA.2.1, hA.2.2.1, hA.2.2.2.1, by_upd hA.2.2.2.2 _ hv⟩
theorem m_out {c : Int32} {g f F : Nat → Int32} {a : Nat → Nat → Int32} (h : Si c g f F) (hA : OkA a) (p : Int32) {v : Int32} (hv : By v) : Rel c g (upd (upd (upd f 5 (xOut f a p v).1) 6 (xOut f a p v).2.1) 7 (xOut f a p v).2.2.1, ua (ua a 5 (xOut f a p v).2.2.2.1) 4 (xOut f a p v).2.2.2.2) (rOut F a p v) := by
  unfold xOut rOut
  by_cases q2 : p = (2 : Int32)
  · rw [if_pos q2, if_pos q2]
    dsimp only
    rw [upd_id, m_a0, show ua a 4 (a 4) = a from m_a0 a 4, show upd (upd f 6 (v &&& (7 : Int32))) 7 (f 7) = upd f 6 (v &&& (7 : Int32)) from upd_id (upd f 6 (v &&& (7 : Int32))) 7]
    exact ⟨rfl, h.u6 _, hA⟩
  · rw [if_neg q2, if_neg q2]
    by_cases q3 : p = (3 : Int32)
    · rw [if_pos q3, if_pos q3]
      exact m_latch h hA (by decide) hv
    · rw [if_neg q3, if_neg q3]
      by_cases q4 : p = (4 : Int32)
      · rw [if_pos q4, if_neg (by rw [q4]; decide), if_pos q4]
        dsimp only
        rw [m_a0, show ua a 4 (a 4) = a from m_a0 a 4, h.1.2.2.2.2.2.1]
        have e6 : upd (upd f 5 ((v <<< ((8 : Int32) &&& 31)) ||| (F 5 >>> ((8 : Int32) &&& 31)))) 6 (f 6) = upd f 5 ((v <<< ((8 : Int32) &&& 31)) ||| (F 5 >>> ((8 : Int32) &&& 31))) := upd_id (upd f 5 ((v <<< ((8 : Int32) &&& 31)) ||| (F 5 >>> ((8 : Int32) &&& 31)))) 6
        have e7 : upd (upd f 5 ((v <<< ((8 : Int32) &&& 31)) ||| (F 5 >>> ((8 : Int32) &&& 31)))) 7 (f 7) = upd f 5 ((v <<< ((8 : Int32) &&& 31)) ||| (F 5 >>> ((8 : Int32) &&& 31))) := upd_id (upd f 5 ((v <<< ((8 : Int32) &&& 31)) ||| (F 5 >>> ((8 : Int32) &&& 31)))) 7
        rw [e6, e7]
        exact ⟨rfl, h.u5 _, hA⟩
      · rw [if_neg q4]
        by_cases q5 : p = (5 : Int32)
        · rw [if_pos q5, if_pos q5]
          exact m_latch h hA (by decide) hv
        · rw [if_neg q5, if_neg q5, if_neg q4]
          by_cases q6 : p = (6 : Int32)
          · rw [if_pos q6, if_pos q6]
            dsimp only
            rw [upd_id, upd_id, m_a0, show ua a 4 (a 4) = a from m_a0 a 4]
            exact ⟨rfl, h.u7 ⟨0, by decide, rfl⟩, hA⟩
          · rw [if_neg q6, if_neg q6]
            dsimp only
            rw [upd_id, upd_id, upd_id, m_a0, show ua a 4 (a 4) = a from m_a0 a 4]
            exact ⟨rfl, h, hA⟩
theorem m_in {c : Int32} {g f F : Nat → Int32} {a : Nat → Nat → Int32} (h : Si c g f F) (hA : OkA a) {p : Int32} (hp : By p) : xIn f a p = rIn F a p ∧ By (rIn F a p) := by
  obtain ⟨n, hn, rfl⟩ := hp
  unfold xIn rIn
  rw [if_neg (nI_pos (by omega))]
  by_cases q : (3 : Int32) ≤ nI n
  · rw [if_pos q, if_pos q]
    by_cases q3 : nI n = (3 : Int32)
    · rw [if_pos q3, if_pos q3]
      unfold xShifted
      rw [h.1.2.2.2.2.2.1, h.1.2.2.2.2.2.2.1]
      exact ⟨rfl, By.of _⟩
    · rw [if_neg q3, if_neg q3]
      exact ⟨rfl, By.zero⟩
  · rw [if_neg q, if_neg q]
    exact ⟨rfl, hA.2.2.2.1 _⟩
/-! interrupts on, off -/
theorem m_di {c : Int32} {g f F : Nat → Int32} (h : Si c g f F) (h3 : F 3 = 0) : Si c g (upd (upd f 2 (0 : Int32)) 3 (0 : Int32)) (upd (upd F 2 (0 : Int32)) 17 (0 : Int32)) := by
  obtain ⟨⟨h0, h1, h2, h3', h4, h5, h6, h7, h11⟩, k1, k2, k3, k4, k5, k6, k7, k8, k9, k10, k11, k12⟩ := h
  refine ⟨⟨h0, h1, rfl, ?_, h4, h5, h6, h7, h11⟩, Or.inr rfl, Or.inl h3, ⟨Or.inl rfl, Or.inl rfl⟩, k4, k5, k6, k7, Or.inl rfl, k9, k10, Or.inl rfl, k12⟩
  show (0 : Int32) = F 3 ||| (0 : Int32)
  rw [h3]; decide
theorem m_ei0 {c : Int32} {g f F : Nat → Int32} (h : Si c g f F) (h2' : F 2 = 0) (h17 : F 17 = 0) (hc : c = 0) : Si c g (upd f 3 (1 : Int32)) (upd F 3 (1 : Int32)) := by
  obtain ⟨⟨h0, h1, h2, h3', h4, h5, h6, h7, h11⟩, k1, k2, k3, k4, k5, k6, k7, k8, k9, k10, k11, k12⟩ := h
  refine ⟨⟨h0, h1, h2, ?_, h4, h5, h6, h7, h11⟩, k1, Or.inr hc, ⟨Or.inr hc, Or.inl h2'⟩, k4, k5, k6, k7, k8, Or.inr rfl, k10, k11, k12⟩
  show (1 : Int32) = (1 : Int32) ||| F 17
  rw [h17]; decide
theorem m_ei1 {c : Int32} {g f F : Nat → Int32} (h : Si c g f F) {v : Int32} (e : v = F 3 ||| F 17) : Si c g (upd f 3 v) F := by
  obtain ⟨⟨h0, h1, h2, h3', h4, h5, h6, h7, h11⟩, k⟩ := h
  exact ⟨⟨h0, h1, h2, e, h4, h5, h6, h7, h11⟩, k⟩
/-! XCHG, XTHL -/
theorem m_xchg (R : Nat → Int32) (A B C D : Int32) : upd (upd (upd (upd R 2 A) 3 B) 4 C) 5 D = upd (upd (upd (upd R 4 C) 5 D) 2 A) 3 B := by
  rw [m_uc (upd R 2 A) (i := 3) (j := 4) (by decide), m_uc R (i := 2) (j := 4) (by decide), m_uc (upd (upd R 4 C) 2 A) (i := 3) (j := 5) (by decide), m_uc (upd R 4 C) (i := 2) (j := 5) (by decide)]
def sglN (y : Nat) : Int32 := if y < 4 then (10 : Int32) else if y = 4 then (18 : Int32) else (4 : Int32)
theorem m_single {c : Int32} {g f F : Nat → Int32} {a : Nat → Nat → Int32} (h : Si c g f F) (hA : OkA a) (h3 : F 3 = 0) (h17 : F 17 = c) {y : Nat} (hy : y < 8) : Rel c g (xExecuteSingle f a (nI y)) (rSingle F a (nI y)).2 ∧ (rSingle F a (nI y)).1 = sglN y := by
  have hy8 : y = 0 ∨ y = 1 ∨ y = 2 ∨ y = 3 ∨ y = 4 ∨ y = 5 ∨ y = 6 ∨ y = 7 := by omega
  unfold xExecuteSingle rSingle
  rcases hy8 with rfl | rfl | rfl | rfl | rfl | rfl | rfl | rfl
  · rw [if_neg (by decide), if_neg (by decide), if_neg (by decide), if_neg (by decide), if_neg (by decide), if_neg (by decide), if_neg (by decide)]
    obtain ⟨n1, n2⟩ := m_nextTwo (a := a) h
    generalize xFetchWord f a = X at n1 n2 ⊢
    generalize rNextTwo F a = Y at n1 n2 ⊢
    obtain ⟨w, f1⟩ := X
    obtain ⟨w', F1⟩ := Y
    dsimp only at n1 n2
    subst n1
    dsimp only
    exact ⟨⟨rfl, n2.u1 _, hA⟩, rfl⟩
  · rw [if_neg (by decide), if_neg (by decide), if_neg (by decide), if_neg (by decide), if_neg (by decide), if_neg (by decide), if_neg (by decide)]
    obtain ⟨n1, n2⟩ := m_nextTwo (a := a) h
    generalize xFetchWord f a = X at n1 n2 ⊢
    generalize rNextTwo F a = Y at n1 n2 ⊢
    obtain ⟨w, f1⟩ := X
    obtain ⟨w', F1⟩ := Y
    dsimp only at n1 n2
    subst n1
    dsimp only
    exact ⟨⟨rfl, n2.u1 _, hA⟩, rfl⟩
  · rw [if_pos (by decide), if_pos (by decide), if_pos (by decide)]
    obtain ⟨n1, n2⟩ := m_next (a := a) h
    have hb : By (xFetch f a).1 := by_read hA _
    generalize xFetch f a = X at n1 n2 hb ⊢
    generalize rNext F a = Y at n1 n2 ⊢
    obtain ⟨w, f1⟩ := X
    obtain ⟨w', F1⟩ := Y
    dsimp only at n1 n2 hb
    subst n1
    dsimp only
    exact ⟨m_out n2 hA _ hA.A, rfl⟩
  · rw [if_neg (by decide), if_pos (by decide), if_pos (by decide), if_neg (by decide), if_pos (by decide)]
    obtain ⟨n1, n2⟩ := m_next (a := a) h
    have hb : By (xFetch f a).1 := by_read hA _
    generalize xFetch f a = X at n1 n2 hb ⊢
    generalize rNext F a = Y at n1 n2 ⊢
    obtain ⟨w, f1⟩ := X
    obtain ⟨w', F1⟩ := Y
    dsimp only at n1 n2 hb
    subst n1
    dsimp only
    obtain ⟨i1, i2⟩ := m_in n2 hA hb
    rw [i1]
    exact ⟨⟨rfl, n2, hA.reg _ i2⟩, rfl⟩
  · rw [if_neg (by decide), if_neg (by decide), if_pos (by decide), if_pos (by decide), if_neg (by decide), if_neg (by decide), if_pos (by decide)]
    have e1 := m_wrw (f := f) hA F (F 0)
    have e2 : xReadWord a (F 0) = rRead F a (F 0) ||| ((rRead F a ((F 0 + (1 : Int32)) &&& (65535 : Int32))) <<< ((8 : Int32) &&& 31)) := by rw [m_read, m_read, m_readM]; rfl
    rw [← e1, ← e2, show (2 : Int32) = nI 2 from rfl, m_setPairAt (f := f) (by decide)]
    unfold xExchangeTop
    rw [h.s0]
    refine ⟨⟨rfl, h, ?_⟩, rfl⟩
    refine ok_pair (f := f) (hA.ram ?_) _ _
    exact by_write (a := ua a 1 _) (by_write hA.2.1 _ _) _ _
  · rw [if_neg (by decide), if_neg (by decide), if_neg (by decide), if_pos (by decide), if_pos (by decide), if_neg (by decide), if_neg (by decide), if_neg (by decide), if_pos (by decide)]
    rw [show (2 : Int32) = nI 2 from rfl, m_setPairAt (f := f) (by decide)]
    dsimp only
    rw [show rSetPair F (xSetPairAt f a (nI (2 * 2)) (rPair F a (1 : Int32))) (1 : Int32) (rHl F a) = (F, xSetPairAt f (xSetPairAt f a (nI (2 * 2)) (rPair F a (1 : Int32))) (nI (2 * 1)) (rHl F a)) from m_setPairAt (f := f) (j := 1) (by decide) _]
    refine ⟨⟨?_, h, ok_pair (f := f) (ok_pair (f := f) hA _ _) _ _⟩, rfl⟩
    show ua (ua (ua (ua a 2 _) 2 _) 2 _) 2 _ = ua (ua (ua (ua a 2 _) 2 _) 2 _) 2 _
    rw [m_aa, m_aa, m_aa, m_aa, m_aa, m_aa]
    exact congrArg (ua a 2) (m_xchg (a 2) _ _ _ _)
  · rw [if_neg (by decide), if_neg (by decide), if_neg (by decide), if_neg (by decide), if_pos (by decide), if_pos (by decide), if_neg (by decide), if_neg (by decide), if_neg (by decide), if_neg (by decide), if_pos (by decide)]
    exact ⟨⟨rfl, m_di h h3, hA⟩, rfl⟩
  · rw [if_neg (by decide), if_neg (by decide), if_neg (by decide), if_neg (by decide), if_neg (by decide), if_pos (by decide)]
    by_cases q2 : F 2 = 0
    · rw [if_pos (show f 2 = 0 from h.1.2.2.1.trans q2), if_pos (by decide), if_neg (by decide), if_neg (by decide), if_neg (by decide), if_neg (by decide), if_neg (by decide), if_pos q2]
      by_cases q17 : F 17 = 0
      · rw [if_pos q17]
        exact ⟨⟨rfl, m_ei0 h q2 q17 (h17.symm.trans q17), hA⟩, rfl⟩
      · rw [if_neg q17]
        have e : F 17 = 1 := (h.2.2.2.2.2.2.2.2.2.2.2.1).one_iff.mpr q17
        exact ⟨⟨rfl, m_ei1 h (by rw [h3, e]; decide), hA⟩, rfl⟩
    · rw [if_neg (show ¬ f 2 = 0 from fun z => q2 (h.1.2.2.1.symm.trans z)), if_pos (by decide), if_neg (by decide), if_neg (by decide), if_neg (by decide), if_neg (by decide), if_neg (by decide), if_neg q2]
      have e : F 17 = 0 := h17.trans (h.2.2.2.1.1.resolve_left q2)
      exact ⟨⟨rfl, m_ei1 h (by rw [h3, e]; decide), hA⟩, rfl⟩
