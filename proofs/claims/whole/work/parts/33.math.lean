theorem OkB.n {F : Nat → Int32} (h : OkB F) {k : Nat} (hk : k < 12 ∨ 16 < k) (v : Int32) : OkB (upd F k v) := by
  obtain ⟨h1, h2, h3, h4, h5⟩ := h
  exact ⟨by rw [m_un F v (by omega)]; exact h1, by rw [m_un F v (by omega)]; exact h2, by rw [m_un F v (by omega)]; exact h3, by rw [m_un F v (by omega)]; exact h4, by rw [m_un F v (by omega)]; exact h5⟩
theorem okb_signs {F : Nat → Int32} (a : Nat → Nat → Int32) {v : Int32} (hv : By v) (h : Bt (F 14)) (c : Bt (F 16)) : OkB (rSigns F a v) := by
  obtain ⟨b1, b2, b3⟩ := m_sB hv
  rw [m_signs]
  exact ⟨b1, b2, h, b3, c⟩
theorem mH_b (x : Int32) : Bt (mH x) := by unfold mH; split; exact Or.inl rfl; exact Or.inr rfl
theorem mC_b (x : Int32) : Bt (mC x) := by unfold mC; split; exact Or.inl rfl; exact Or.inr rfl
theorem mN_b (x : Int32) : Bt (mN x) := by unfold mN; split; exact Or.inl rfl; exact Or.inr rfl
theorem Bt.zero : Bt 0 := Or.inl rfl
theorem Bt.one : Bt 1 := Or.inr rfl
theorem m_c0 : ∀ a b c d e : Fin 2, ((((((nI a.val <<< ((7 : Int32) &&& 31)) ||| (nI b.val <<< ((6 : Int32) &&& 31))) ||| (nI c.val <<< ((4 : Int32) &&& 31))) ||| (nI d.val <<< ((2 : Int32) &&& 31))) ||| (2 : Int32)) ||| nI e.val) &&& (1 : Int32) = nI e.val := by decide +kernel
theorem m_c1 {F : Nat → Int32} (h : OkB F) : rFl F &&& (1 : Int32) = F 16 := by
  obtain ⟨h1, h2, h3, h4, h5⟩ := h
  obtain ⟨a, ea⟩ := h1.nat
  obtain ⟨b, eb⟩ := h2.nat
  obtain ⟨c, ec⟩ := h3.nat
  obtain ⟨d, ed⟩ := h4.nat
  obtain ⟨e, ee⟩ := h5.nat
  unfold rFl
  rw [ea, eb, ec, ed, ee]
  exact m_c0 a b c d e
/-- a result with its flags, put into A: both sides -/
theorem m_res {c : Int32} {g f F : Nat → Int32} {a : Nat → Nat → Int32} (h : Si c g f F) {v H C X Y : Int32} (hv : By v) (hh : Bt H) (hc : Bt C) (eX : X = H <<< ((4 : Int32) &&& 31)) (eY : Y = C) :
    Si c g (upd f 11 ((xFlagsOf v ||| X) ||| Y)) (rSigns (upd (upd F 14 H) 16 C) a v) := by
  have e14 : upd (upd F 14 H) 16 C 14 = H := rfl
  have e16 : upd (upd F 14 H) 16 C 16 = C := rfl
  refine h.fl (fun k hk => ?_) (okb_signs a hv (by rw [e14]; exact hh) (by rw [e16]; exact hc)) ?_
  · rw [m_signs_n _ _ _ ⟨by omega, by omega, by omega⟩, m_un _ _ (by omega), m_un _ _ (by omega)]
  · rw [m_rFl _ _ hv (by rw [e14]; exact hh) (by rw [e16]; exact hc), e14, e16, eX, eY]
/-! subtraction -/
theorem m_x0 : ∀ v : Fin 256, nI v.val ^^^ (255 : Int32) = nI (255 - v.val) ∧ (nI v.val ^^^ (-1 : Int32)) &&& (15 : Int32) = nI (15 - v.val % 16) ∧ nI (255 - v.val) &&& (15 : Int32) = nI (15 - v.val % 16) := by decide +kernel
theorem m_n0 : ∀ s : Fin 512, ((((nI s.val) >>> ((8 : Int32) &&& 31)) &&& (1 : Int32)) ^^^ (1 : Int32)) = mN (nI s.val - (256 : Int32)) ∧ (nI s.val - (256 : Int32)) &&& (255 : Int32) = nI s.val &&& (255 : Int32) := by unfold mN; decide +kernel
theorem m_dif {n k c : Nat} (hn : n < 256) (hk : k < 256) (hc : c < 2) : nI n - nI k - nI c = nI (n + (255 - k) + (1 - c)) - (256 : Int32) := by
  apply Int32.toInt_inj.mp
  rw [Int32.toInt_sub, Int32.toInt_sub, Int32.toInt_sub, nI_toInt (by omega), nI_toInt (by omega), nI_toInt (by omega), nI_toInt (by omega), show (256 : Int32).toInt = 256 from by decide]
  have e1 : ((n : Int) - (k : Int)).bmod (2 ^ 32) = (n : Int) - k := Int.bmod_eq_of_le (by omega) (by omega)
  have e2 : ((n : Int) - k - c).bmod (2 ^ 32) = (n : Int) - k - c := Int.bmod_eq_of_le (by omega) (by omega)
  have e3 : (((n + (255 - k) + (1 - c) : Nat) : Int) - 256).bmod (2 ^ 32) = ((n + (255 - k) + (1 - c) : Nat) : Int) - 256 := Int.bmod_eq_of_le (by omega) (by omega)
  rw [e1, e2, e3]
  omega
theorem m_sub {A v c : Int32} (hA : By A) (hv : By v) (hc : Bt c) :
    ((A + (v ^^^ (255 : Int32))) + ((1 : Int32) - c)) &&& (255 : Int32) = ((A - v) - c) &&& (255 : Int32) ∧
    ((((A + (v ^^^ (255 : Int32))) + ((1 : Int32) - c)) >>> ((8 : Int32) &&& 31)) &&& (1 : Int32)) ^^^ (1 : Int32) = mN ((A - v) - c) ∧
    ((((A &&& (15 : Int32)) + ((v ^^^ (255 : Int32)) &&& (15 : Int32))) + ((1 : Int32) - c)) &&& (16 : Int32)) = (mH ((((A &&& (15 : Int32)) + ((v ^^^ (-1 : Int32)) &&& (15 : Int32))) + (1 : Int32)) - c)) <<< ((4 : Int32) &&& 31) := by
  obtain ⟨n, hn, rfl⟩ := hA
  obtain ⟨k, hk, rfl⟩ := hv
  obtain ⟨c, rfl⟩ := hc.nat
  have hc2 := c.isLt
  obtain ⟨x1, x2, x3⟩ := m_x0 ⟨k, hk⟩
  have x1 : nI k ^^^ (255 : Int32) = nI (255 - k) := x1
  have x2 : (nI k ^^^ (-1 : Int32)) &&& (15 : Int32) = nI (15 - k % 16) := x2
  have x3 : nI (255 - k) &&& (15 : Int32) = nI (15 - k % 16) := x3
  have d1 : (1 : Int32) - nI c.val = nI (1 - c.val) := pk_sub (a := 1) (b := c.val) (by omega)
  have e : n % 16 + (15 - k % 16) + 1 - c.val = n % 16 + (15 - k % 16) + (1 - c.val) := by omega
  have d2 : (((nI n &&& (15 : Int32)) + ((nI k ^^^ (-1 : Int32)) &&& (15 : Int32))) + (1 : Int32)) - nI c.val = nI (n % 16 + (15 - k % 16) + (1 - c.val)) := by
    rw [x2, m_lo hn, nI_add, show nI (n % 16 + (15 - k % 16)) + (1 : Int32) = nI (n % 16 + (15 - k % 16) + 1) from nI_add _ 1, pk_sub (a := n % 16 + (15 - k % 16) + 1) (b := c.val) (by omega), e]
  have d3 : ((nI n &&& (15 : Int32)) + ((nI k ^^^ (255 : Int32)) &&& (15 : Int32))) + ((1 : Int32) - nI c.val) = nI (n % 16 + (15 - k % 16) + (1 - c.val)) := by
    rw [x1, x3, m_lo hn, d1, nI_add, nI_add]
  have d4 : (nI n + (nI k ^^^ (255 : Int32))) + ((1 : Int32) - nI c.val) = nI (n + (255 - k) + (1 - c.val)) := by
    rw [x1, d1, nI_add, nI_add]
  rw [d2, d3, d4, m_dif hn hk hc2]
  obtain ⟨y1, y2⟩ := m_n0 ⟨n + (255 - k) + (1 - c.val), by omega⟩
  refine ⟨y2.symm, y1, ?_⟩
  exact m_h0 ⟨n % 16 + (15 - k % 16) + (1 - c.val), by omega⟩
