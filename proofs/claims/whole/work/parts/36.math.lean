/-! carry alone, rotates -/
theorem m_cy0 : ∀ a b c d e x : Fin 2, ((((((((nI a.val <<< ((7 : Int32) &&& 31)) ||| (nI b.val <<< ((6 : Int32) &&& 31))) ||| (nI c.val <<< ((4 : Int32) &&& 31))) ||| (nI d.val <<< ((2 : Int32) &&& 31))) ||| (2 : Int32)) ||| nI e.val) &&& (-2 : Int32)) ||| nI x.val) = (((((nI a.val <<< ((7 : Int32) &&& 31)) ||| (nI b.val <<< ((6 : Int32) &&& 31))) ||| (nI c.val <<< ((4 : Int32) &&& 31))) ||| (nI d.val <<< ((2 : Int32) &&& 31))) ||| (2 : Int32)) ||| nI x.val := by decide +kernel
theorem m_cyx : ∀ a b c d e : Fin 2, (((((((nI a.val <<< ((7 : Int32) &&& 31)) ||| (nI b.val <<< ((6 : Int32) &&& 31))) ||| (nI c.val <<< ((4 : Int32) &&& 31))) ||| (nI d.val <<< ((2 : Int32) &&& 31))) ||| (2 : Int32)) ||| nI e.val) ||| (1 : Int32) = (((((nI a.val <<< ((7 : Int32) &&& 31)) ||| (nI b.val <<< ((6 : Int32) &&& 31))) ||| (nI c.val <<< ((4 : Int32) &&& 31))) ||| (nI d.val <<< ((2 : Int32) &&& 31))) ||| (2 : Int32)) ||| (1 : Int32)) ∧ (((((((nI a.val <<< ((7 : Int32) &&& 31)) ||| (nI b.val <<< ((6 : Int32) &&& 31))) ||| (nI c.val <<< ((4 : Int32) &&& 31))) ||| (nI d.val <<< ((2 : Int32) &&& 31))) ||| (2 : Int32)) ||| nI e.val) ^^^ (1 : Int32) = (((((nI a.val <<< ((7 : Int32) &&& 31)) ||| (nI b.val <<< ((6 : Int32) &&& 31))) ||| (nI c.val <<< ((4 : Int32) &&& 31))) ||| (nI d.val <<< ((2 : Int32) &&& 31))) ||| (2 : Int32)) ||| ((1 : Int32) - nI e.val)) := by decide +kernel
theorem OkB.carry {F : Nat → Int32} (h : OkB F) {x : Int32} (hx : Bt x) : OkB (upd F 16 x) := ⟨h.1, h.2.1, h.2.2.1, h.2.2.2.1, hx⟩
theorem m_carry {c : Int32} {g f F : Nat → Int32} (h : Si c g f F) {x : Int32} (hx : Bt x) : Si c g (upd f 11 (((f 11) &&& (-2 : Int32)) ||| x)) (upd F 16 x) := by
  refine h.fl (fun k hk => m_un F x (by omega)) (h.ok.carry hx) ?_
  rw [h.s11]
  obtain ⟨h1, h2, h3, h4, h5⟩ := h.ok
  obtain ⟨a, ea⟩ := h1.nat
  obtain ⟨b, eb⟩ := h2.nat
  obtain ⟨c, ec⟩ := h3.nat
  obtain ⟨d, ed⟩ := h4.nat
  obtain ⟨e, ee⟩ := h5.nat
  obtain ⟨y, rfl⟩ := hx.nat
  show (rFl F &&& (-2 : Int32)) ||| nI y.val = (((((F 12 <<< ((7 : Int32) &&& 31)) ||| (F 13 <<< ((6 : Int32) &&& 31))) ||| (F 14 <<< ((4 : Int32) &&& 31))) ||| (F 15 <<< ((2 : Int32) &&& 31))) ||| (2 : Int32)) ||| nI y.val
  unfold rFl
  rw [ea, eb, ec, ed, ee]
  exact m_cy0 a b c d e y
theorem m_carry2 {c : Int32} {g f F : Nat → Int32} (h : Si c g f F) : Si c g (upd f 11 ((f 11) ||| (1 : Int32))) (upd F 16 (1 : Int32)) ∧ Si c g (upd f 11 ((f 11) ^^^ (1 : Int32))) (upd F 16 ((1 : Int32) - F 16)) := by
  have hb : Bt ((1 : Int32) - F 16) := by
    rcases h.ok.2.2.2.2 with q | q
    · rw [q]; exact Or.inr (by decide)
    · rw [q]; exact Or.inl (by decide)
  obtain ⟨h1, h2, h3, h4, h5⟩ := h.ok
  obtain ⟨a, ea⟩ := h1.nat
  obtain ⟨b, eb⟩ := h2.nat
  obtain ⟨x, ec⟩ := h3.nat
  obtain ⟨d, ed⟩ := h4.nat
  obtain ⟨e, ee⟩ := h5.nat
  refine ⟨h.fl (fun k hk => m_un F _ (by omega)) (h.ok.carry Bt.one) ?_, h.fl (fun k hk => m_un F _ (by omega)) (h.ok.carry hb) ?_⟩
  · rw [h.s11]
    show rFl F ||| (1 : Int32) = (((((F 12 <<< ((7 : Int32) &&& 31)) ||| (F 13 <<< ((6 : Int32) &&& 31))) ||| (F 14 <<< ((4 : Int32) &&& 31))) ||| (F 15 <<< ((2 : Int32) &&& 31))) ||| (2 : Int32)) ||| (1 : Int32)
    unfold rFl
    rw [ea, eb, ec, ed, ee]
    exact (m_cyx a b x d e).1
  · rw [h.s11]
    show rFl F ^^^ (1 : Int32) = (((((F 12 <<< ((7 : Int32) &&& 31)) ||| (F 13 <<< ((6 : Int32) &&& 31))) ||| (F 14 <<< ((4 : Int32) &&& 31))) ||| (F 15 <<< ((2 : Int32) &&& 31))) ||| (2 : Int32)) ||| ((1 : Int32) - F 16)
    unfold rFl
    rw [ea, eb, ec, ed, ee]
    exact (m_cyx a b x d e).2
theorem m_r0 : ∀ n : Fin 256, ∀ c : Fin 2, (((nI n.val <<< ((1 : Int32) &&& 31)) ||| (nI n.val >>> ((7 : Int32) &&& 31))) &&& (255 : Int32) = ((nI n.val <<< ((1 : Int32) &&& 31)) &&& (254 : Int32)) ||| (nI n.val >>> ((7 : Int32) &&& 31)) ∧ (nI n.val >>> ((7 : Int32) &&& 31)) &&& (1 : Int32) = nI n.val >>> ((7 : Int32) &&& 31)) ∧
    ((((nI n.val >>> ((1 : Int32) &&& 31)) ||| (nI n.val <<< ((7 : Int32) &&& 31))) &&& (255 : Int32) = (nI n.val >>> ((1 : Int32) &&& 31)) ||| ((nI n.val &&& (1 : Int32)) <<< ((7 : Int32) &&& 31))) ∧
    (((nI n.val <<< ((1 : Int32) &&& 31)) ||| nI c.val) &&& (255 : Int32) = ((nI n.val <<< ((1 : Int32) &&& 31)) &&& (254 : Int32)) ||| nI c.val) ∧
    (((nI n.val >>> ((1 : Int32) &&& 31)) ||| (nI c.val <<< ((7 : Int32) &&& 31))) &&& (255 : Int32) = (nI n.val >>> ((1 : Int32) &&& 31)) ||| (nI c.val <<< ((7 : Int32) &&& 31)))) ∧
    nI n.val ^^^ (255 : Int32) = (nI n.val ^^^ (-1 : Int32)) &&& (255 : Int32) := by decide +kernel
theorem Bt.of (x : Int32) : Bt (x &&& (1 : Int32)) := by
  obtain ⟨j, hj, e⟩ := pk_andE x (m := 1) 1 (by decide)
  have hj : j = 0 ∨ j = 1 := by omega
  rw [e]
  rcases hj with rfl | rfl
  · exact Or.inl rfl
  · exact Or.inr rfl
/-- a rotate: the class's word behind it and the reference's -/
theorem m_rot {c : Int32} {g f F : Nat → Int32} {a : Nat → Nat → Int32} (h : Si c g f F) (hA : OkA a) {V V' x x' : Int32} (eV : V &&& (255 : Int32) = V') (ex : x &&& (1 : Int32) = x') : Rel c g (xSetRotated f a V x) (upd F 16 x', ua a 2 (upd (a 2) (7 : Int32).toNatClampNeg V')) := by
  subst eV
  subst ex
  exact ⟨rfl, m_carry h (Bt.of _), hA.reg _ (By.of _)⟩
theorem m_turn {c : Int32} {g f F : Nat → Int32} {a : Nat → Nat → Int32} (h : Si c g f F) (hA : OkA a) {j : Nat} (hj : j < 8) : Rel c g (xChangeAcc f a (nI j)) (rTurn F a (nI j)) := by
  have hc : (f 11) &&& (1 : Int32) = F 16 := by rw [h.s11]; exact m_c1 h.ok
  obtain ⟨n, hn, en⟩ := hA.A
  have en : (a 2) (7 : Int32).toNatClampNeg = nI n := en
  obtain ⟨cy, ecy⟩ := h.ok.2.2.2.2.nat
  obtain ⟨⟨z1, z2⟩, ⟨z3, z4, z5⟩, z6⟩ := m_r0 ⟨n, hn⟩ cy
  have hj8 : j = 0 ∨ j = 1 ∨ j = 2 ∨ j = 3 ∨ j = 4 ∨ j = 5 ∨ j = 6 ∨ j = 7 := by omega
  unfold xChangeAcc rTurn
  rcases hj8 with rfl | rfl | rfl | rfl | rfl | rfl | rfl | rfl
  · rw [if_pos (by decide), if_pos (by decide)]
    refine m_rot h hA ?_ ?_
    · rw [en]; exact z1
    · rw [en]; exact z2
  · rw [if_neg (by decide), if_pos (by decide), if_neg (by decide), if_neg (by decide), if_pos (by decide)]
    refine m_rot h hA ?_ ?_
    · rw [en]; exact z3
    · rfl
  · rw [if_neg (by decide), if_neg (by decide), if_pos (by decide), if_neg (by decide), if_pos (by decide)]
    refine m_rot h hA ?_ ?_
    · rw [en, hc, ecy]; exact z4
    · rw [en]; exact z2
  · rw [if_neg (by decide), if_neg (by decide), if_neg (by decide), if_pos (by decide), if_neg (by decide), if_neg (by decide), if_neg (by decide), if_pos (by decide)]
    refine m_rot h hA ?_ ?_
    · rw [en, hc, ecy]; exact z5
    · rfl
  · rw [if_neg (by decide), if_neg (by decide), if_neg (by decide), if_neg (by decide), if_pos (by decide), if_neg (by decide), if_neg (by decide), if_neg (by decide), if_neg (by decide), if_pos (by decide)]
    exact m_adj h hA
  · rw [if_neg (by decide), if_neg (by decide), if_neg (by decide), if_neg (by decide), if_neg (by decide), if_pos (by decide), if_neg (by decide), if_neg (by decide), if_neg (by decide), if_neg (by decide), if_neg (by decide), if_pos (by decide)]
    rw [en, z6]
    exact ⟨rfl, h, hA.reg _ (By.of _)⟩
  · rw [if_neg (by decide), if_neg (by decide), if_neg (by decide), if_neg (by decide), if_neg (by decide), if_neg (by decide), if_pos (by decide), if_neg (by decide), if_neg (by decide), if_neg (by decide), if_neg (by decide), if_neg (by decide), if_neg (by decide), if_pos (by decide)]
    exact ⟨rfl, (m_carry2 h).1, hA⟩
  · rw [if_neg (by decide), if_neg (by decide), if_neg (by decide), if_neg (by decide), if_neg (by decide), if_neg (by decide), if_neg (by decide), if_neg (by decide), if_neg (by decide), if_neg (by decide), if_neg (by decide), if_neg (by decide), if_neg (by decide), if_neg (by decide)]
    exact ⟨rfl, (m_carry2 h).2, hA⟩
/-! pairs -/
theorem m_pairAt (f : Nat → Int32) (F : Nat → Int32) (a : Nat → Nat → Int32) {j : Nat} (hj : j < 4) : xPairOrSp f a (nI j) = if nI j = (3 : Int32) then f 0 else rPair F a (nI j) := by
  have hj4 : j = 0 ∨ j = 1 ∨ j = 2 ∨ j = 3 := by omega
  unfold xPairOrSp
  rcases hj4 with rfl | rfl | rfl | rfl <;> rfl
theorem m_pair {c : Int32} {g f F : Nat → Int32} {a : Nat → Nat → Int32} (h : Si c g f F) {j : Nat} (hj : j < 4) : xPairOrSp f a (nI j) = rPair F a (nI j) := by
  have hj4 : j = 0 ∨ j = 1 ∨ j = 2 ∨ j = 3 := by omega
  rcases hj4 with rfl | rfl | rfl | rfl
  · rfl
  · rfl
  · rfl
  · exact h.s0
theorem m_setPairAt {f F : Nat → Int32} {a : Nat → Nat → Int32} {j : Nat} (hj : j < 3) (v : Int32) : rSetPair F a (nI j) v = (F, xSetPairAt f a (nI (2 * j)) v) := by
  have hj4 : j = 0 ∨ j = 1 ∨ j = 2 := by omega
  rcases hj4 with rfl | rfl | rfl <;> rfl
theorem ok_pair {f : Nat → Int32} {a : Nat → Nat → Int32} (h : OkA a) (p v : Int32) : OkA (xSetPairAt f a p v) := by
  unfold xSetPairAt
  rw [m_aa]
  exact h.regs (by_upd (by_upd h.2.2.1 _ (By.of _)) _ (By.of _))
theorem m_setPair {c : Int32} {g f F : Nat → Int32} {a : Nat → Nat → Int32} (h : Si c g f F) (hA : OkA a) {j : Nat} (hj : j < 4) (v : Int32) : Rel c g (xSetPairOrSp f a (nI j) v) (rSetPair F a (nI j) v) := by
  have hj4 : j = 0 ∨ j = 1 ∨ j = 2 ∨ j = 3 := by omega
  rcases hj4 with rfl | rfl | rfl | rfl
  · rw [m_setPairAt (f := f) (by decide)]; exact ⟨rfl, h, ok_pair (f := f) hA _ _⟩
  · rw [m_setPairAt (f := f) (by decide)]; exact ⟨rfl, h, ok_pair (f := f) hA _ _⟩
  · rw [m_setPairAt (f := f) (by decide)]; exact ⟨rfl, h, ok_pair (f := f) hA _ _⟩
  · exact ⟨rfl, h.u0 (Wd.of _), hA⟩
