/-! words of two bytes -/
theorem m_w {x y : Nat} (hx : x < 256) (hy : y < 256) : (nI y <<< ((8 : Int32) &&& 31)) ||| nI x = nI (256 * y + x) := by
  rw [pk_shlN ((8 : Int32) &&& 31) 8 (by decide) (by omega), nI_or2, Nat.mul_comm, show (256 : Nat) = 2 ^ 8 from rfl, ← Nat.two_pow_add_eq_or_of_lt (i := 8) hx]
theorem m_wB {h l : Int32} (hh : By h) (hl : By l) : Wd ((h <<< ((8 : Int32) &&& 31)) ||| l) ∧ ((h <<< ((8 : Int32) &&& 31)) ||| l) >>> ((8 : Int32) &&& 31) = h ∧ ((h <<< ((8 : Int32) &&& 31)) ||| l) &&& (255 : Int32) = l := by
  obtain ⟨y, hy, rfl⟩ := hh
  obtain ⟨x, hx, rfl⟩ := hl
  rw [m_w hx hy, pk_shrN (by omega) ((8 : Int32) &&& 31) 8 (by decide), pk_andN (by omega) 8 (by decide)]
  exact ⟨⟨_, by omega, rfl⟩, congrArg nI (by omega), congrArg nI (by omega)⟩
theorem m_wC {h l : Int32} (hh : By h) (hl : By l) : Wd (l ||| (h <<< ((8 : Int32) &&& 31))) ∧ (l ||| (h <<< ((8 : Int32) &&& 31))) >>> ((8 : Int32) &&& 31) = h ∧ (l ||| (h <<< ((8 : Int32) &&& 31))) &&& (255 : Int32) = l := by
  rw [Int32.or_comm]
  exact m_wB hh hl
theorem m_hi (x : Int32) : ((x &&& (65535 : Int32)) >>> ((8 : Int32) &&& 31)) &&& (255 : Int32) = (x >>> ((8 : Int32) &&& 31)) &&& (255 : Int32) := by
  rw [Int32.shiftRight_and, Int32.and_assoc, show ((65535 : Int32) >>> ((8 : Int32) &&& 31)) &&& (255 : Int32) = (255 : Int32) from by decide]
theorem m_spm (f : Nat → Int32) (a : Nat → Nat → Int32) (p x : Int32) : xSetPairAt f a p (x &&& (65535 : Int32)) = xSetPairAt f a p x := by
  unfold xSetPairAt
  rw [m_hi, m_andand x 65535 255 255 (by decide)]
theorem m_spo (f : Nat → Int32) (a : Nat → Nat → Int32) (p x : Int32) : xSetPairOrSp f a p (x &&& (65535 : Int32)) = xSetPairOrSp f a p x := by
  unfold xSetPairOrSp
  rw [m_spm, m_andand x 65535 65535 65535 (by decide)]
theorem OkA.hl {a : Nat → Nat → Int32} (h : OkA a) (F : Nat → Int32) : Wd (rHl F a) := (m_wB (h.2.2.1 _) (h.2.2.1 _)).1
theorem wd_pair {c : Int32} {g f F : Nat → Int32} {a : Nat → Nat → Int32} (h : Si c g f F) (hA : OkA a) {j : Nat} (hj : j < 4) : Wd (rPair F a (nI j)) := by
  have hj4 : j = 0 ∨ j = 1 ∨ j = 2 ∨ j = 3 := by omega
  rcases hj4 with rfl | rfl | rfl | rfl
  · exact (m_wB (hA.2.2.1 _) (hA.2.2.1 _)).1
  · exact (m_wB (hA.2.2.1 _) (hA.2.2.1 _)).1
  · exact (m_wB (hA.2.2.1 _) (hA.2.2.1 _)).1
  · exact h.wd
theorem m_c16 {x y : Int32} (hx : Wd x) (hy : Wd y) : ((x + y) >>> ((16 : Int32) &&& 31)) &&& (1 : Int32) = (x + y) >>> ((16 : Int32) &&& 31) := by
  obtain ⟨n, hn, rfl⟩ := hx
  obtain ⟨k, hk, rfl⟩ := hy
  rw [nI_add, pk_shrN (by omega) ((16 : Int32) &&& 31) 16 (by decide), pk_andN (by omega) 1 (by decide)]
  exact congrArg nI (by omega)
/-- DAD -/
theorem m_dad {c : Int32} {g f F : Nat → Int32} {a : Nat → Nat → Int32} (h : Si c g f F) (hA : OkA a) {v : Int32} (hv : Wd v) : Rel c g (xAddToHl f a v) (rSetPair (upd F 16 ((rHl F a + v) >>> ((16 : Int32) &&& 31))) a (2 : Int32) ((rHl F a + v) &&& (65535 : Int32))) := by
  have e := m_setPairAt (f := f) (F := upd F 16 ((rHl F a + v) >>> ((16 : Int32) &&& 31))) (a := a) (j := 2) (by decide) ((rHl F a + v) &&& (65535 : Int32))
  rw [show (2 : Int32) = nI 2 from rfl, e, m_spm]
  refine ⟨rfl, ?_, ok_pair (f := f) hA _ _⟩
  have q := m_carry h (Bt.of ((rHl F a + v) >>> ((16 : Int32) &&& 31)))
  rw [m_c16 (hA.hl F) hv] at q
  show Si c g (upd f 11 ((f 11 &&& (-2 : Int32)) ||| (((rHl F a + v) >>> ((16 : Int32) &&& 31)) &&& (1 : Int32)))) (upd F 16 ((rHl F a + v) >>> ((16 : Int32) &&& 31)))
  rw [m_c16 (hA.hl F) hv]
  exact q
theorem m_uc (r : Nat → Int32) {i j : Nat} (h : i ≠ j) (v w : Int32) : upd (upd r i v) j w = upd (upd r j w) i v := by
  funext k
  by_cases e : k = i
  · subst e; rw [m_un _ _ h, m_us, m_us]
  · by_cases e2 : k = j
    · subst e2; rw [m_us, m_un _ _ e, m_us]
    · rw [m_un _ _ e2, m_un _ _ e, m_un _ _ e, m_un _ _ e2]
theorem m_wrv (a : Nat → Nat → Int32) (p : Int32) {v w : Int32} (e : v &&& (255 : Int32) = w &&& (255 : Int32)) : xWrite a p v = xWrite a p w := by
  unfold xWrite
  rw [e]
theorem m_wrw {f : Nat → Int32} {a : Nat → Nat → Int32} (hA : OkA a) (F : Nat → Int32) (r : Int32) : ua a 1 (xWriteWord a r (xPairAt f a (4 : Int32))) = ua (ua a 1 (rWrite F a r ((a 2) (5 : Int32).toNatClampNeg))) 1 (rWrite F (ua a 1 (rWrite F a r ((a 2) (5 : Int32).toNatClampNeg))) ((r + (1 : Int32)) &&& (65535 : Int32)) ((a 2) (4 : Int32).toNatClampNeg)) := by
  obtain ⟨_, e2, e3⟩ := m_wB (hA.2.2.1 (4 : Int32).toNatClampNeg) (hA.2.2.1 (5 : Int32).toNatClampNeg)
  unfold xWriteWord
  rw [m_aa, m_write, m_write, m_writeM, m_hl f F]
  have e2 : rHl F a >>> ((8 : Int32) &&& 31) = (a 2) (4 : Int32).toNatClampNeg := e2
  have e3 : rHl F a &&& (255 : Int32) = (a 2) (5 : Int32).toNatClampNeg := e3
  have w1 : xWrite a r (rHl F a) = xWrite a r ((a 2) (5 : Int32).toNatClampNeg) := m_wrv a r (by rw [e3, (hA.2.2.1 _).mask])
  rw [e2, w1]
theorem m_rdw {f : Nat → Int32} {a : Nat → Nat → Int32} (hA : OkA a) (F : Nat → Int32) (r : Int32) : xSetPairAt f a (4 : Int32) (xReadWord a r) = ua (ua a 2 (upd (a 2) (5 : Int32).toNatClampNeg (rRead F a r))) 2 (upd (upd (a 2) (5 : Int32).toNatClampNeg (rRead F a r)) (4 : Int32).toNatClampNeg (rRead F (ua a 2 (upd (a 2) (5 : Int32).toNatClampNeg (rRead F a r))) ((r + (1 : Int32)) &&& (65535 : Int32)))) := by
  obtain ⟨_, e2, e3⟩ := m_wC (by_read hA (r + (1 : Int32))) (by_read hA r)
  unfold xSetPairAt xReadWord
  rw [m_aa, m_aa, m_read, m_read, m_readM, e2, e3, (by_read hA (r + (1 : Int32))).mask]
  have e : xRead (ua a 2 (upd (a 2) (5 : Int32).toNatClampNeg (xRead a r))) (r + (1 : Int32)) = xRead a (r + (1 : Int32)) := rfl
  rw [e]
  exact congrArg (ua a 2) (m_uc (a 2) (by decide) _ _)
def movN (j : Nat) : Int32 := if j < 4 then (7 : Int32) else if j < 6 then (16 : Int32) else (13 : Int32)
theorem m_moved {c : Int32} {g f F : Nat → Int32} {a : Nat → Nat → Int32} (h : Si c g f F) (hA : OkA a) {j : Nat} (hj : j < 8) : Rel c g (xLoadOrStore f a (nI j)) (rMoved F a (nI j)).2 ∧ (rMoved F a (nI j)).1 = movN j := by
  have hj8 : j = 0 ∨ j = 1 ∨ j = 2 ∨ j = 3 ∨ j = 4 ∨ j = 5 ∨ j = 6 ∨ j = 7 := by omega
  obtain ⟨n1, n2⟩ := m_nextTwo (a := a) h
  unfold xLoadOrStore rMoved
  generalize xFetchWord f a = X at n1 n2
  generalize rNextTwo F a = Y at n1 n2
  obtain ⟨w, f1⟩ := X
  obtain ⟨w', F1⟩ := Y
  dsimp only at n1 n2
  subst n1
  rcases hj8 with rfl | rfl | rfl | rfl | rfl | rfl | rfl | rfl
  · rw [if_pos (by decide), if_neg (by decide), if_pos (by decide)]
    refine ⟨⟨?_, h, ?_⟩, rfl⟩
    · show ua a 1 (xWrite a _ _) = ua a 1 (rWrite F a _ _)
      rw [m_write]; rfl
    · show OkA (ua a 1 (rWrite F a _ _))
      rw [m_write]; exact hA.wr _ _
  · rw [if_neg (by decide), if_pos (by decide), if_neg (by decide), if_neg (by decide)]
    refine ⟨⟨?_, h, ?_⟩, rfl⟩
    · show ua a 2 (upd (a 2) _ (xRead a _)) = ua a 2 (upd (a 2) _ (rRead F a _))
      rw [m_read]; rfl
    · show OkA (ua a 2 (upd (a 2) _ (rRead F a _)))
      rw [m_read]; exact hA.reg _ (by_read hA _)
  · rw [if_neg (by decide), if_neg (by decide), if_pos (by decide), if_neg (by decide), if_pos (by decide)]
    refine ⟨⟨?_, h, ?_⟩, rfl⟩
    · show ua a 1 (xWrite a _ _) = ua a 1 (rWrite F a _ _)
      rw [m_write]; rfl
    · show OkA (ua a 1 (rWrite F a _ _))
      rw [m_write]; exact hA.wr _ _
  · rw [if_neg (by decide), if_neg (by decide), if_neg (by decide), if_pos (by decide), if_neg (by decide), if_neg (by decide)]
    refine ⟨⟨?_, h, ?_⟩, rfl⟩
    · show ua a 2 (upd (a 2) _ (xRead a _)) = ua a 2 (upd (a 2) _ (rRead F a _))
      rw [m_read]; rfl
    · show OkA (ua a 2 (upd (a 2) _ (rRead F a _)))
      rw [m_read]; exact hA.reg _ (by_read hA _)
  · rw [if_neg (by decide), if_neg (by decide), if_neg (by decide), if_neg (by decide), if_pos (by decide), if_pos (by decide)]
    dsimp only
    rw [if_pos (by decide)]
    refine ⟨⟨m_wrw hA F1 _, n2, ?_⟩, rfl⟩
    refine (m_wrw (f := f1) hA F1 _) ▸ hA.ram ?_
    exact by_write (a := ua a 1 _) (by_write hA.2.1 _ _) _ _
  · rw [if_neg (by decide), if_neg (by decide), if_neg (by decide), if_neg (by decide), if_neg (by decide), if_pos (by decide), if_pos (by decide)]
    dsimp only
    rw [if_neg (by decide), if_pos (by decide)]
    refine ⟨⟨m_rdw (f := f1) hA F1 _, n2, ?_⟩, rfl⟩
    exact (m_rdw (f := f1) hA F1 _) ▸ ok_pair (f := f1) hA _ _
  · rw [if_neg (by decide), if_neg (by decide), if_neg (by decide), if_neg (by decide), if_neg (by decide), if_neg (by decide), if_pos (by decide), if_pos (by decide)]
    dsimp only
    rw [if_neg (by decide), if_neg (by decide), if_pos (by decide)]
    refine ⟨⟨?_, n2, ?_⟩, rfl⟩
    · show ua a 1 (xWrite a _ _) = ua a 1 (rWrite F1 a _ _)
      rw [m_write]
    · show OkA (ua a 1 (rWrite F1 a _ _))
      rw [m_write]; exact hA.wr _ _
  · rw [if_neg (by decide), if_neg (by decide), if_neg (by decide), if_neg (by decide), if_neg (by decide), if_neg (by decide), if_neg (by decide), if_pos (by decide)]
    dsimp only
    rw [if_neg (by decide), if_neg (by decide), if_neg (by decide), if_pos (by decide)]
    refine ⟨⟨?_, n2, ?_⟩, rfl⟩
    · show ua a 2 (upd (a 2) _ (xRead a _)) = ua a 2 (upd (a 2) _ (rRead F1 a _))
      rw [m_read]
    · show OkA (ua a 2 (upd (a 2) _ (rRead F1 a _)))
      rw [m_read]; exact hA.reg _ (by_read hA _)
