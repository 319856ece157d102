/-! flags: of a byte, with half and carry -/
theorem Bt.nat {x : Int32} (h : Bt x) : ∃ n : Fin 2, x = nI n.val := by
  rcases h with rfl | rfl
  · exact ⟨0, rfl⟩
  · exact ⟨1, rfl⟩
/-- the flags that a byte tells, as the reference sets them -/
def mS (v : Int32) : Int32 := (v >>> ((7 : Int32) &&& 31)) &&& (1 : Int32)
def mZ (v : Int32) : Int32 := if v &&& (255 : Int32) = 0 then (1 : Int32) else (0 : Int32)
def mP (v : Int32) : Int32 := rParity (rOnes v 8 0 (0 : Int32))
theorem m_fl0 : ∀ v : Fin 256, ∀ h : Fin 2, ∀ c : Fin 2, ((((((mS (nI v.val)) <<< ((7 : Int32) &&& 31)) ||| ((mZ (nI v.val)) <<< ((6 : Int32) &&& 31))) ||| ((nI h.val) <<< ((4 : Int32) &&& 31))) ||| ((mP (nI v.val)) <<< ((2 : Int32) &&& 31))) ||| (2 : Int32)) ||| (nI c.val) = ((xFlagsOf (nI v.val)) ||| ((nI h.val) <<< ((4 : Int32) &&& 31))) ||| (nI c.val) := by decide +kernel
theorem m_fl {v h c : Int32} (hv : By v) (hh : Bt h) (hc : Bt c) : ((((((mS v) <<< ((7 : Int32) &&& 31)) ||| ((mZ v) <<< ((6 : Int32) &&& 31))) ||| (h <<< ((4 : Int32) &&& 31))) ||| ((mP v) <<< ((2 : Int32) &&& 31))) ||| (2 : Int32)) ||| c = ((xFlagsOf v) ||| (h <<< ((4 : Int32) &&& 31))) ||| c := by
  obtain ⟨n, hn, rfl⟩ := hv
  obtain ⟨h, rfl⟩ := hh.nat
  obtain ⟨c, rfl⟩ := hc.nat
  exact m_fl0 ⟨n, hn⟩ h c
theorem m_signs (F : Nat → Int32) (a : Nat → Nat → Int32) (v : Int32) : rSigns F a v = upd (upd (upd F 12 (mS v)) 13 (mZ v)) 15 (mP v) := by
  unfold rSigns mZ
  by_cases h : v &&& (255 : Int32) = 0
  · rw [if_pos h, if_pos h]; rfl
  · rw [if_neg h, if_neg h]; rfl
/-- the reference's flags behind 'signs' -/
theorem m_rFl (F : Nat → Int32) (a : Nat → Nat → Int32) {v : Int32} (hv : By v) (hh : Bt (F 14)) (hc : Bt (F 16)) : rFl (rSigns F a v) = ((xFlagsOf v) ||| ((F 14) <<< ((4 : Int32) &&& 31))) ||| (F 16) := by
  rw [m_signs, ← m_fl hv hh hc]
  rfl
theorem m_signs_n (F : Nat → Int32) (a : Nat → Nat → Int32) (v : Int32) {k : Nat} (h : k ≠ 12 ∧ k ≠ 13 ∧ k ≠ 15) : rSigns F a v k = F k := by
  rw [m_signs, m_un _ _ h.2.2, m_un _ _ h.2.1, m_un _ _ h.1]
theorem m_sB0 : ∀ v : Fin 256, Bt (mS (nI v.val)) ∧ Bt (mZ (nI v.val)) ∧ Bt (mP (nI v.val)) := by unfold Bt; decide +kernel
theorem m_sB {v : Int32} (h : By v) : Bt (mS v) ∧ Bt (mZ v) ∧ Bt (mP v) := by
  obtain ⟨n, hn, rfl⟩ := h
  exact m_sB0 ⟨n, hn⟩
/-! addition -/
theorem m_s0 : ∀ s : Fin 512, ((((nI s.val) >>> ((8 : Int32) &&& 31)) &&& (1 : Int32)) ^^^ (0 : Int32)) = (if nI s.val ≤ (255 : Int32) then (0 : Int32) else (1 : Int32)) := by decide +kernel
theorem m_h0 : ∀ s : Fin 32, (nI s.val) &&& (16 : Int32) = (if nI s.val ≤ (15 : Int32) then (0 : Int32) else (1 : Int32)) <<< ((4 : Int32) &&& 31) := by decide +kernel
theorem By.nat {x : Int32} (h : By x) : ∃ n : Nat, n < 256 ∧ x = nI n := h
theorem m_lo {n : Nat} (h : n < 256) : nI n &&& (15 : Int32) = nI (n % 16) := pk_andN (by omega) 4 (by decide)
/-- ADD, ADC: the class's flags are the reference's -/
theorem m_add {A v c : Int32} (hA : By A) (hv : By v) (hc : Bt c) : ((((A + v) + c) >>> ((8 : Int32) &&& 31)) &&& (1 : Int32)) ^^^ (0 : Int32) = (if ((A + v) + c) ≤ (255 : Int32) then (0 : Int32) else (1 : Int32)) ∧ ((((A &&& (15 : Int32)) + (v &&& (15 : Int32))) + c) &&& (16 : Int32)) = (if (((A &&& (15 : Int32)) + (v &&& (15 : Int32))) + c) ≤ (15 : Int32) then (0 : Int32) else (1 : Int32)) <<< ((4 : Int32) &&& 31) := by
  obtain ⟨n, hn, rfl⟩ := hA
  obtain ⟨k, hk, rfl⟩ := hv
  obtain ⟨c, rfl⟩ := hc.nat
  have := c.isLt
  rw [nI_add, nI_add, m_lo hn, m_lo hk, nI_add, nI_add]
  exact ⟨m_s0 ⟨n + k + c.val, by omega⟩, m_h0 ⟨n % 16 + k % 16 + c.val, by omega⟩⟩
