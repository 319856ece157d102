/-! THE MATH: the class's functions (x..) beside the reference's (r..) -/
theorem m_us (f : Nat → Int32) (k : Nat) (v : Int32) : upd f k v k = v := if_pos rfl
theorem m_un (f : Nat → Int32) {k j : Nat} (v : Int32) (h : j ≠ k) : upd f k v j = f j := if_neg h
theorem m_as (a : Nat → Nat → Int32) (k : Nat) (v : Nat → Int32) : ua a k v k = v := if_pos rfl
theorem m_an (a : Nat → Nat → Int32) {k j : Nat} (v : Nat → Int32) (h : j ≠ k) : ua a k v j = a j := if_neg h
theorem m_aa (a : Nat → Nat → Int32) (k : Nat) (v w : Nat → Int32) : ua (ua a k v) k w = ua a k w := by
  funext j
  by_cases h : j = k
  · subst h; rw [m_as, m_as]
  · rw [m_an _ _ h, m_an _ _ h, m_an _ _ h]
theorem m_a0 (a : Nat → Nat → Int32) (k : Nat) : ua a k (a k) = a := by
  funext j
  by_cases h : j = k
  · subst h; rw [m_as]
  · rw [m_an _ _ h]
theorem m_A0 : ∀ i : Fin 128, ∀ j : Fin 128, ((nI (128 * i.val + j.val) &&& (8192 : Int32) = 0) ↔ nI (128 * i.val + j.val) < (8192 : Int32)) ∧ (¬ nI (128 * i.val + j.val) < (8192 : Int32) → nI (128 * i.val + j.val) - (8192 : Int32) = nI (128 * i.val + j.val) &&& (8191 : Int32)) := by decide +kernel
theorem m_A {r : Nat} (hr : r < 16384) : ((nI r &&& (8192 : Int32) = 0) ↔ nI r < (8192 : Int32)) ∧ (¬ nI r < (8192 : Int32) → nI r - (8192 : Int32) = nI r &&& (8191 : Int32)) := by
  have h := m_A0 ⟨r / 128, by omega⟩ ⟨r % 128, by omega⟩
  have e : 128 * (r / 128) + r % 128 = r := by omega
  simp only [e] at h
  exact h
theorem m_andand (p m k q : Int32) (h : m &&& k = q) : (p &&& m) &&& k = p &&& q := by rw [Int32.and_assoc, h]
theorem m_low (p : Int32) : ((p &&& (8192 : Int32) = 0) ↔ (p &&& (16383 : Int32)) < (8192 : Int32)) ∧ (¬ (p &&& (16383 : Int32)) < (8192 : Int32) → (p &&& (16383 : Int32)) - (8192 : Int32) = p &&& (8191 : Int32)) := by
  rw [← m_andand p 16383 8192 8192 (by decide), ← m_andand p 16383 8191 8191 (by decide)]
  obtain ⟨r, hr, e⟩ := pk_andE p (m := 16383) 14 (by decide)
  rw [e]
  exact m_A hr
/-- reading -/
theorem m_read (F : Nat → Int32) (a : Nat → Nat → Int32) (p : Int32) : rRead F a p = xRead a p := by
  have e1 : (p &&& (65535 : Int32)) &&& (16383 : Int32) = p &&& (16383 : Int32) := m_andand p _ _ _ (by decide)
  unfold rRead xRead
  rw [e1]
  by_cases h : (p &&& (16383 : Int32)) < (8192 : Int32)
  · rw [if_pos h, if_pos ((m_low p).1.mpr h)]
  · rw [if_neg h, if_neg (fun q => h ((m_low p).1.mp q)), (m_low p).2 h]
theorem m_write (F : Nat → Int32) (a : Nat → Nat → Int32) (p v : Int32) : rWrite F a p v = xWrite a p v := by
  unfold rWrite xWrite
  by_cases h : (p &&& (16383 : Int32)) < (8192 : Int32)
  · rw [if_pos h, if_pos ((m_low p).1.mpr h)]
  · rw [if_neg h, if_neg (fun q => h ((m_low p).1.mp q)), (m_low p).2 h]
theorem m_readM (a : Nat → Nat → Int32) (p : Int32) : xRead a (p &&& (65535 : Int32)) = xRead a p := by
  unfold xRead
  rw [m_andand p 65535 8192 8192 (by decide), m_andand p 65535 65535 65535 (by decide), m_andand p 65535 8191 8191 (by decide)]
theorem m_writeM (a : Nat → Nat → Int32) (p v : Int32) : xWrite a (p &&& (65535 : Int32)) v = xWrite a p v := by
  unfold xWrite
  rw [m_andand p 65535 8192 8192 (by decide), m_andand p 65535 8191 8191 (by decide)]
theorem m_mask (x c : Int32) : ((x &&& (65535 : Int32)) + c) &&& (65535 : Int32) = (x + c) &&& (65535 : Int32) := by
  rw [pk_and ((x &&& (65535 : Int32)) + c) 16 (by decide), pk_and (x + c) 16 (by decide)]
  refine congrArg nI ?_
  rw [Int32.toBitVec_add, BitVec.toNat_add, Int32.toBitVec_add, BitVec.toNat_add, Int32.toBitVec_and, BitVec.toNat_and, show (65535 : Int32).toBitVec.toNat = 2 ^ 16 - 1 from by decide, Nat.and_two_pow_sub_one_eq_mod]
  omega
/-! flags and scalars side by side -/
def rFl (F : Nat → Int32) : Int32 := ((((((F 12) <<< ((7 : Int32) &&& 31)) ||| ((F 13) <<< ((6 : Int32) &&& 31))) ||| ((F 14) <<< ((4 : Int32) &&& 31))) ||| ((F 15) <<< ((2 : Int32) &&& 31))) ||| (2 : Int32)) ||| (F 16)
def Sm (f F : Nat → Int32) : Prop := f 0 = F 0 ∧ f 1 = F 1 ∧ f 2 = F 2 ∧ f 3 = F 3 ∧ f 4 = F 4 ∧ f 5 = F 5 ∧ f 6 = F 6 ∧ f 7 = F 7 ∧ f 11 = rFl F
theorem rFlags_eq (F : Nat → Int32) (a : Nat → Nat → Int32) : rFlags F a = rFl F := rfl
theorem rFl_n (F : Nat → Int32) {k : Nat} (v : Int32) (h : k < 12 ∨ 16 < k) : rFl (upd F k v) = rFl F := by
  unfold rFl
  rw [m_un F v (show 12 ≠ k by omega), m_un F v (show 13 ≠ k by omega), m_un F v (show 14 ≠ k by omega), m_un F v (show 15 ≠ k by omega), m_un F v (show 16 ≠ k by omega)]
theorem Sm.up {f F : Nat → Int32} (h : Sm f F) {k : Nat} (hk : k < 8) (v : Int32) : Sm (upd f k v) (upd F k v) := by
  obtain ⟨h0, h1, h2, h3, h4, h5, h6, h7, h11⟩ := h
  refine ⟨?_, ?_, ?_, ?_, ?_, ?_, ?_, ?_, ?_⟩
  · by_cases q : 0 = k <;> simp [upd, q, h0]
  · by_cases q : 1 = k <;> simp [upd, q, h1]
  · by_cases q : 2 = k <;> simp [upd, q, h2]
  · by_cases q : 3 = k <;> simp [upd, q, h3]
  · by_cases q : 4 = k <;> simp [upd, q, h4]
  · by_cases q : 5 = k <;> simp [upd, q, h5]
  · by_cases q : 6 = k <;> simp [upd, q, h6]
  · by_cases q : 7 = k <;> simp [upd, q, h7]
  · rw [rFl_n F v (Or.inl (by omega)), m_un f v (by omega), h11]
/-- a change of what only the reference holds, of no flag -/
theorem Sm.right {f F : Nat → Int32} (h : Sm f F) {k : Nat} (hk : 8 ≤ k) (hk2 : k < 12 ∨ 16 < k) (v : Int32) : Sm f (upd F k v) := by
  obtain ⟨h0, h1, h2, h3, h4, h5, h6, h7, h11⟩ := h
  exact ⟨by rw [m_un F v (by omega)]; exact h0, by rw [m_un F v (by omega)]; exact h1, by rw [m_un F v (by omega)]; exact h2, by rw [m_un F v (by omega)]; exact h3, by rw [m_un F v (by omega)]; exact h4, by rw [m_un F v (by omega)]; exact h5, by rw [m_un F v (by omega)]; exact h6, by rw [m_un F v (by omega)]; exact h7, by rw [rFl_n F v hk2]; exact h11⟩
/-- new flags on both sides -/
theorem Sm.fl {f F F' : Nat → Int32} (h : Sm f F) (hF : ∀ k, k < 8 → F' k = F k) {v : Int32} (hv : v = rFl F') : Sm (upd f 11 v) F' := by
  obtain ⟨h0, h1, h2, h3, h4, h5, h6, h7, h11⟩ := h
  exact ⟨by rw [m_un f v (by omega), hF 0 (by omega)]; exact h0, by rw [m_un f v (by omega), hF 1 (by omega)]; exact h1, by rw [m_un f v (by omega), hF 2 (by omega)]; exact h2, by rw [m_un f v (by omega), hF 3 (by omega)]; exact h3, by rw [m_un f v (by omega), hF 4 (by omega)]; exact h4, by rw [m_un f v (by omega), hF 5 (by omega)]; exact h5, by rw [m_un f v (by omega), hF 6 (by omega)]; exact h6, by rw [m_un f v (by omega), hF 7 (by omega)]; exact h7, by rw [m_us]; exact hv⟩
/-! fetch, stack, registers -/
theorem m_next {f F : Nat → Int32} {a : Nat → Nat → Int32} (h : Sm f F) : (rNext F a).1 = (xFetch f a).1 ∧ Sm (xFetch f a).2 (rNext F a).2 := by
  refine ⟨?_, ?_⟩
  · show rRead F a (F 1) = xRead a (f 1)
    rw [m_read, h.2.1]
  · show Sm (upd f 1 _) (upd F 1 _)
    rw [h.2.1]
    exact h.up (by decide) _
theorem Sm.ext {f F F' : Nat → Int32} (h : Sm f F) (e : ∀ k, F' k = F k) : Sm f F' := by
  have : F' = F := funext e
  rw [this]; exact h
theorem m_uu (f : Nat → Int32) (k : Nat) (v w : Int32) : upd (upd f k v) k w = upd f k w := by
  funext j
  by_cases h : j = k
  · subst h; rw [m_us, m_us]
  · rw [m_un _ _ h, m_un _ _ h, m_un _ _ h]
theorem m_nextTwo {f F : Nat → Int32} {a : Nat → Nat → Int32} (h : Sm f F) : (rNextTwo F a).1 = (xFetchWord f a).1 ∧ Sm (xFetchWord f a).2 (rNextTwo F a).2 := by
  have e : rNextTwo F a = (rRead F a (F 1) ||| ((rRead F a (((F 1) + (1 : Int32)) &&& (65535 : Int32))) <<< ((8 : Int32) &&& 31)), upd (upd F 1 (((F 1) + (1 : Int32)) &&& (65535 : Int32))) 1 (((((F 1) + (1 : Int32)) &&& (65535 : Int32)) + (1 : Int32)) &&& (65535 : Int32))) := rfl
  rw [e]
  refine ⟨?_, ?_⟩
  · show _ = xRead a (f 1) ||| ((xRead a (f 1 + (1 : Int32))) <<< ((8 : Int32) &&& 31))
    rw [m_read, m_read, m_readM, h.2.1]
  · show Sm (upd f 1 _) (upd (upd F 1 _) 1 _)
    rw [m_uu, m_mask, h.2.1, show F 1 + (1 : Int32) + (1 : Int32) = F 1 + (2 : Int32) from by rw [Int32.add_assoc]; rfl]
    exact h.up (by decide) _
theorem m_pop {f F : Nat → Int32} {a : Nat → Nat → Int32} (h : Sm f F) : (rPop F a).1 = (xPop f a).1 ∧ Sm (xPop f a).2 (rPop F a).2 := by
  refine ⟨?_, ?_⟩
  · show rRead F a (F 0) ||| ((rRead F a (((F 0) + (1 : Int32)) &&& (65535 : Int32))) <<< ((8 : Int32) &&& 31)) = xRead a (f 0) ||| ((xRead a (f 0 + (1 : Int32))) <<< ((8 : Int32) &&& 31))
    rw [m_read, m_read, m_readM, h.1]
  · show Sm (upd f 0 _) (upd F 0 _)
    rw [h.1]
    exact h.up (by decide) _
theorem m_push {f F : Nat → Int32} {a : Nat → Nat → Int32} (h : Sm f F) (v : Int32) : (rPush F a v).2 = (xPush f a v).2 ∧ Sm (xPush f a v).1 (rPush F a v).1 := by
  refine ⟨?_, ?_⟩
  · show ua (ua a 1 (rWrite _ a _ v)) 1 (rWrite _ (ua a 1 (rWrite _ a _ v)) _ _) = ua a 1 (xWrite (ua a 1 (xWrite a _ v)) _ _)
    rw [m_aa, m_write, m_write, m_writeM, h.1]
  · show Sm (upd f 0 _) (upd F 0 _)
    rw [h.1]
    exact h.up (by decide) _
theorem m_hl (f F : Nat → Int32) (a : Nat → Nat → Int32) : xPairAt f a (4 : Int32) = rHl F a := rfl
def By (x : Int32) : Prop := ∃ n : Nat, n < 256 ∧ x = nI n
theorem By.mask {x : Int32} (h : By x) : x &&& (255 : Int32) = x := by
  obtain ⟨n, hn, rfl⟩ := h
  rw [pk_andN (by omega) 8 (by decide), Nat.mod_eq_of_lt (by omega)]
theorem By.of (x : Int32) : By (x &&& (255 : Int32)) := by
  obtain ⟨j, hj, e⟩ := pk_andE x (m := 255) 8 (by decide)
  exact ⟨j, hj, e⟩
theorem m_get (f F : Nat → Int32) (a : Nat → Nat → Int32) (r : Int32) : xOperand f a r = rGet F a (r &&& (7 : Int32)) := by
  unfold xOperand rGet
  by_cases h : r &&& (7 : Int32) = (6 : Int32)
  · rw [if_pos h, if_pos h, m_hl f F, m_read]
  · rw [if_neg h, if_neg h]
theorem m_set (f F : Nat → Int32) (a : Nat → Nat → Int32) (r v : Int32) (hv : By v) : xSetOperand f a r v = rSet F a (r &&& (7 : Int32)) v := by
  unfold xSetOperand rSet
  by_cases h : r &&& (7 : Int32) = (6 : Int32)
  · rw [if_pos h, if_pos h, m_hl f F, m_write]
  · rw [if_neg h, if_neg h, hv.mask]
