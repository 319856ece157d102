/-! bytes: closed under the logic, arrays of bytes -/
theorem nI_and2 (a b : Nat) : nI a &&& nI b = nI (a &&& b) := by
  apply Int32.toBitVec_inj.mp
  apply BitVec.eq_of_toNat_eq
  rw [Int32.toBitVec_and, BitVec.toNat_and]
  show (a % 2 ^ 32) &&& (b % 2 ^ 32) = (a &&& b) % 2 ^ 32
  rw [Nat.and_mod_two_pow]
theorem nI_or2 (a b : Nat) : nI a ||| nI b = nI (a ||| b) := by
  apply Int32.toBitVec_inj.mp
  apply BitVec.eq_of_toNat_eq
  rw [Int32.toBitVec_or, BitVec.toNat_or]
  show (a % 2 ^ 32) ||| (b % 2 ^ 32) = (a ||| b) % 2 ^ 32
  rw [Nat.or_mod_two_pow]
theorem nI_xor2 (a b : Nat) : nI a ^^^ nI b = nI (a ^^^ b) := by
  apply Int32.toBitVec_inj.mp
  apply BitVec.eq_of_toNat_eq
  rw [Int32.toBitVec_xor, BitVec.toNat_xor]
  show (a % 2 ^ 32) ^^^ (b % 2 ^ 32) = (a ^^^ b) % 2 ^ 32
  rw [Nat.xor_mod_two_pow]
theorem By.and {x y : Int32} (hx : By x) (hy : By y) : By (x &&& y) := by
  obtain ⟨n, hn, rfl⟩ := hx
  obtain ⟨k, hk, rfl⟩ := hy
  exact ⟨n &&& k, Nat.and_lt_two_pow n (n := 8) hk, nI_and2 n k⟩
theorem By.or {x y : Int32} (hx : By x) (hy : By y) : By (x ||| y) := by
  obtain ⟨n, hn, rfl⟩ := hx
  obtain ⟨k, hk, rfl⟩ := hy
  exact ⟨n ||| k, Nat.or_lt_two_pow (n := 8) hn hk, nI_or2 n k⟩
theorem By.xor {x y : Int32} (hx : By x) (hy : By y) : By (x ^^^ y) := by
  obtain ⟨n, hn, rfl⟩ := hx
  obtain ⟨k, hk, rfl⟩ := hy
  exact ⟨n ^^^ k, Nat.xor_lt_two_pow (n := 8) hn hk, nI_xor2 n k⟩
theorem By.zero : By 0 := ⟨0, by decide, rfl⟩
theorem By.lit {n : Nat} (h : n < 256) : By (nI n) := ⟨n, h, rfl⟩
theorem by_upd {r : Nat → Int32} (h : ∀ i, By (r i)) (k : Nat) {v : Int32} (hv : By v) : ∀ i, By (upd r k v i) := by
  intro i
  by_cases e : i = k
  · subst e; rw [m_us]; exact hv
  · rw [m_un _ _ e]; exact h i
theorem OkA.reg {a : Nat → Nat → Int32} (h : OkA a) (k : Nat) {v : Int32} (hv : By v) : OkA (ua a 2 (upd (a 2) k v)) := ⟨h.1, h.2.1, by_upd h.2.2.1 k hv, h.2.2.2.1, h.2.2.2.2⟩
theorem OkA.regs {a : Nat → Nat → Int32} (h : OkA a) {r : Nat → Int32} (hr : ∀ i, By (r i)) : OkA (ua a 2 r) := ⟨h.1, h.2.1, hr, h.2.2.2.1, h.2.2.2.2⟩
theorem OkA.ram {a : Nat → Nat → Int32} (h : OkA a) {r : Nat → Int32} (hr : ∀ i, By (r i)) : OkA (ua a 1 r) := ⟨h.1, hr, h.2.2.1, h.2.2.2.1, h.2.2.2.2⟩
theorem by_write {a : Nat → Nat → Int32} (h : ∀ i, By (a 1 i)) (p v : Int32) : ∀ i, By (xWrite a p v i) := by
  unfold xWrite
  by_cases e : p &&& (8192 : Int32) = 0
  · rw [if_pos e]; exact h
  · rw [if_neg e]; exact by_upd h _ (By.of v)
theorem OkA.wr {a : Nat → Nat → Int32} (h : OkA a) (p v : Int32) : OkA (ua a 1 (xWrite a p v)) := h.ram (by_write h.2.1 p v)
theorem by_read {a : Nat → Nat → Int32} (h : OkA a) (p : Int32) : By (xRead a p) := by
  unfold xRead
  by_cases e : p &&& (8192 : Int32) = 0
  · rw [if_pos e]
    by_cases e2 : (2048 : Int32) ≤ (p &&& (65535 : Int32))
    · rw [if_pos e2]; exact By.zero
    · rw [if_neg e2]; exact h.1 _
  · rw [if_neg e]; exact h.2.1 _
theorem by_get {f : Nat → Int32} {a : Nat → Nat → Int32} (h : OkA a) (p : Int32) : By (xOperand f a p) := by
  unfold xOperand
  by_cases e : p &&& (7 : Int32) = (6 : Int32)
  · rw [if_pos e]; exact by_read h _
  · rw [if_neg e]; exact h.2.2.1 _
theorem ok_set {f : Nat → Int32} {a : Nat → Nat → Int32} (h : OkA a) (p : Int32) {v : Int32} (hv : By v) : OkA (xSetOperand f a p v) := by
  unfold xSetOperand
  by_cases e : p &&& (7 : Int32) = (6 : Int32)
  · rw [if_pos e]; exact h.wr _ _
  · rw [if_neg e]; exact h.reg _ hv
/-- the class's answer beside the reference's: same arrays, scalars side by side -/
def Rel (c : Int32) (g : Nat → Int32) (x r : (Nat → Int32) × (Nat → Nat → Int32)) : Prop := x.2 = r.2 ∧ Si c g x.1 r.1 ∧ OkA r.2
theorem OkA.A {a : Nat → Nat → Int32} (h : OkA a) : By (rA a) := h.2.2.1 _
theorem m_and4 : ∀ x : Fin 256, (nI x.val <<< ((1 : Int32) &&& 31)) &&& (16 : Int32) = ((nI x.val >>> ((3 : Int32) &&& 31)) &&& (1 : Int32)) <<< ((4 : Int32) &&& 31) ∧ Bt ((nI x.val >>> ((3 : Int32) &&& 31)) &&& (1 : Int32)) := by unfold Bt; decide +kernel
theorem m_half {x : Int32} (h : By x) : (x <<< ((1 : Int32) &&& 31)) &&& (16 : Int32) = ((x >>> ((3 : Int32) &&& 31)) &&& (1 : Int32)) <<< ((4 : Int32) &&& 31) ∧ Bt ((x >>> ((3 : Int32) &&& 31)) &&& (1 : Int32)) := by
  obtain ⟨n, hn, rfl⟩ := h
  exact m_and4 ⟨n, hn⟩
theorem m_log {c : Int32} {g f F : Nat → Int32} {a : Nat → Nat → Int32} (h : Si c g f F) (hA : OkA a) {v H X : Int32} (hv : By v) (hh : Bt H) (eX : X = H <<< ((4 : Int32) &&& 31)) : Rel c g (xSetLogical f a v X) (rSigns (upd (upd F 14 H) 16 (0 : Int32)) a (v &&& (255 : Int32)), rPut a (v &&& (255 : Int32))) := by
  rw [hv.mask]
  refine ⟨rfl, ?_, hA.reg _ hv⟩
  have q := m_res (a := a) h (C := 0) (Y := 0) hv hh Bt.zero eX rfl
  rw [Int32.or_zero] at q
  exact q
theorem m_calc {c : Int32} {g f F : Nat → Int32} {a : Nat → Nat → Int32} (h : Si c g f F) (hA : OkA a) (p : Int32) {v : Int32} (hv : By v) : Rel c g (xCalculate f a p v) (rAlu F a (p &&& (7 : Int32)) v) := by
  obtain ⟨j, hj, e⟩ := pk_andE p (m := 7) 3 (by decide)
  have hc : (f 11) &&& (1 : Int32) = F 16 := by rw [h.s11]; exact m_c1 h.ok
  have hb : Bt (F 16) := h.ok.2.2.2.2
  unfold xCalculate
  rw [e]
  have hj8 : j = 0 ∨ j = 1 ∨ j = 2 ∨ j = 3 ∨ j = 4 ∨ j = 5 ∨ j = 6 ∨ j = 7 := by omega
  have s0 := m_sub hA.A hv Bt.zero
  rw [show (1 : Int32) - 0 = 1 from by decide] at s0
  have s1 := m_sub hA.A hv hb
  rcases hj8 with rfl | rfl | rfl | rfl | rfl | rfl | rfl | rfl
  · rw [if_pos (by decide), rAlu_0]
    exact ⟨rfl, m_res (a := a) h (By.of _) (mH_b _) (mC_b _) (m_add hA.A hv Bt.zero).2 (m_add hA.A hv Bt.zero).1, hA.reg _ (By.of _)⟩
  · rw [if_neg (by decide), if_pos (by decide), rAlu_1, hc]
    exact ⟨rfl, m_res (a := a) h (By.of _) (mH_b _) (mC_b _) (m_add hA.A hv hb).2 (m_add hA.A hv hb).1, hA.reg _ (By.of _)⟩
  · rw [if_neg (by decide), if_neg (by decide), if_pos (by decide), rAlu_2, ← s0.1]
    exact ⟨rfl, m_res (a := a) h (By.of _) (mH_b _) (mN_b _) s0.2.2 s0.2.1, hA.reg _ (By.of _)⟩
  · rw [if_neg (by decide), if_neg (by decide), if_neg (by decide), if_pos (by decide), rAlu_3, hc, ← s1.1]
    exact ⟨rfl, m_res (a := a) h (By.of _) (mH_b _) (mN_b _) s1.2.2 s1.2.1, hA.reg _ (By.of _)⟩
  · rw [if_neg (by decide), if_neg (by decide), if_neg (by decide), if_neg (by decide), if_pos (by decide), rAlu_4]
    exact m_log h hA (hA.A.and hv) (m_half (hA.A.or hv)).2 (m_half (hA.A.or hv)).1
  · rw [if_neg (by decide), if_neg (by decide), if_neg (by decide), if_neg (by decide), if_neg (by decide), if_pos (by decide), rAlu_5]
    exact m_log h hA (hA.A.xor hv) Bt.zero (by decide)
  · rw [if_neg (by decide), if_neg (by decide), if_neg (by decide), if_neg (by decide), if_neg (by decide), if_neg (by decide), if_pos (by decide), rAlu_6]
    exact m_log h hA (hA.A.or hv) Bt.zero (by decide)
  · rw [if_neg (by decide), if_neg (by decide), if_neg (by decide), if_neg (by decide), if_neg (by decide), if_neg (by decide), if_neg (by decide), rAlu_7, ← s0.1]
    exact ⟨rfl, m_res (a := a) h (By.of _) (mH_b _) (mN_b _) s0.2.2 s0.2.1, hA⟩
