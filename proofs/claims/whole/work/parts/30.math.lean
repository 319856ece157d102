/-! THE MATH: the class's functions (x..) beside the reference's (r..) -/
theorem m_us (f : Nat → Int32) (k : Nat) (v : Int32) : upd f k v k = v := if_pos rfl
theorem m_un (f : Nat → Int32) {k j : Nat} (v : Int32) (h : j ≠ k) : upd f k v j = f j := if_neg h
theorem m_as (a : Nat → Nat → Int32) (k : Nat) (v : Nat → Int32) : ua a k v k = v := if_pos rfl
theorem m_an (a : Nat → Nat → Int32) {k j : Nat} (v : Nat → Int32) (h : j ≠ k) : ua a k v j = a j := if_neg h
theorem m_aa (a : Nat → Nat → Int32) (k : Nat) (v w : Nat → Int32) : ua (ua a k v) k w = ua a k w := by
  funext j
  by_cases h : j = k
  · subst h; rw [m_as, m_as]
  · rw [m_an _ _ h, m_an _ _ h, m_an _ _ h]
theorem m_a0 (a : Nat → Nat → Int32) (k : Nat) : ua a k (a k) = a := by
  funext j
  by_cases h : j = k
  · subst h; rw [m_as]
  · rw [m_an _ _ h]
theorem m_A0 : ∀ i : Fin 128, ∀ j : Fin 128, ((nI (128 * i.val + j.val) &&& (8192 : Int32) = 0) ↔ nI (128 * i.val + j.val) < (8192 : Int32)) ∧ (¬ nI (128 * i.val + j.val) < (8192 : Int32) → nI (128 * i.val + j.val) - (8192 : Int32) = nI (128 * i.val + j.val) &&& (8191 : Int32)) := by decide +kernel
theorem m_A {r : Nat} (hr : r < 16384) : ((nI r &&& (8192 : Int32) = 0) ↔ nI r < (8192 : Int32)) ∧ (¬ nI r < (8192 : Int32) → nI r - (8192 : Int32) = nI r &&& (8191 : Int32)) := by
  have h := m_A0 ⟨r / 128, by omega⟩ ⟨r % 128, by omega⟩
  have e : 128 * (r / 128) + r % 128 = r := by omega
  simp only [e] at h
  exact h
theorem m_andand (p m k q : Int32) (h : m &&& k = q) : (p &&& m) &&& k = p &&& q := by rw [Int32.and_assoc, h]
theorem m_low (p : Int32) : ((p &&& (8192 : Int32) = 0) ↔ (p &&& (16383 : Int32)) < (8192 : Int32)) ∧ (¬ (p &&& (16383 : Int32)) < (8192 : Int32) → (p &&& (16383 : Int32)) - (8192 : Int32) = p &&& (8191 : Int32)) := by
  rw [← m_andand p 16383 8192 8192 (by decide), ← m_andand p 16383 8191 8191 (by decide)]
  obtain ⟨r, hr, e⟩ := pk_andE p (m := 16383) 14 (by decide)
  rw [e]
  exact m_A hr
/-- reading -/
theorem m_read (F : Nat → Int32) (a : Nat → Nat → Int32) (p : Int32) : rRead F a p = xRead a p := by
  have e1 : (p &&& (65535 : Int32)) &&& (16383 : Int32) = p &&& (16383 : Int32) := m_andand p _ _ _ (by decide)
  unfold rRead xRead
  rw [e1]
  by_cases h : (p &&& (16383 : Int32)) < (8192 : Int32)
  · rw [if_pos h, if_pos ((m_low p).1.mpr h)]
  · rw [if_neg h, if_neg (fun q => h ((m_low p).1.mp q)), (m_low p).2 h]
theorem m_write (F : Nat → Int32) (a : Nat → Nat → Int32) (p v : Int32) : rWrite F a p v = xWrite a p v := by
  unfold rWrite xWrite
  by_cases h : (p &&& (16383 : Int32)) < (8192 : Int32)
  · rw [if_pos h, if_pos ((m_low p).1.mpr h)]
  · rw [if_neg h, if_neg (fun q => h ((m_low p).1.mp q)), (m_low p).2 h]
theorem m_readM (a : Nat → Nat → Int32) (p : Int32) : xRead a (p &&& (65535 : Int32)) = xRead a p := by
  unfold xRead
  rw [m_andand p 65535 8192 8192 (by decide), m_andand p 65535 65535 65535 (by decide), m_andand p 65535 8191 8191 (by decide)]
theorem m_writeM (a : Nat → Nat → Int32) (p v : Int32) : xWrite a (p &&& (65535 : Int32)) v = xWrite a p v := by
  unfold xWrite
  rw [m_andand p 65535 8192 8192 (by decide), m_andand p 65535 8191 8191 (by decide)]
theorem m_mask (x c : Int32) : ((x &&& (65535 : Int32)) + c) &&& (65535 : Int32) = (x + c) &&& (65535 : Int32) := by
  rw [pk_and ((x &&& (65535 : Int32)) + c) 16 (by decide), pk_and (x + c) 16 (by decide)]
  refine congrArg nI ?_
  rw [Int32.toBitVec_add, BitVec.toNat_add, Int32.toBitVec_add, BitVec.toNat_add, Int32.toBitVec_and, BitVec.toNat_and, show (65535 : Int32).toBitVec.toNat = 2 ^ 16 - 1 from by decide, Nat.and_two_pow_sub_one_eq_mod]
  omega
/-! flags and scalars side by side -/
def rFl (F : Nat → Int32) : Int32 := ((((((F 12) <<< ((7 : Int32) &&& 31)) ||| ((F 13) <<< ((6 : Int32) &&& 31))) ||| ((F 14) <<< ((4 : Int32) &&& 31))) ||| ((F 15) <<< ((2 : Int32) &&& 31))) ||| (2 : Int32)) ||| (F 16)
def By (x : Int32) : Prop := ∃ n : Nat, n < 256 ∧ x = nI n
def Bt (x : Int32) : Prop := x = 0 ∨ x = 1
def Wd (x : Int32) : Prop := ∃ n : Nat, n < 65536 ∧ x = nI n
def Lo (x : Int32) : Prop := ∃ n : Nat, n < 16 ∧ x = nI n
def OkB (F : Nat → Int32) : Prop := Bt (F 12) ∧ Bt (F 13) ∧ Bt (F 14) ∧ Bt (F 15) ∧ Bt (F 16)
def OkA (a : Nat → Nat → Int32) : Prop := (∀ i, By (a 0 i)) ∧ (∀ i, By (a 1 i)) ∧ (∀ i, By (a 2 i)) ∧ (∀ i, By (a 3 i)) ∧ (∀ i, By (a 4 i))
def Sm (f F : Nat → Int32) : Prop := f 0 = F 0 ∧ f 1 = F 1 ∧ f 2 = F 2 ∧ f 3 = F 3 ||| F 17 ∧ f 4 = F 4 ∧ f 5 = F 5 ∧ f 6 = F 6 ∧ f 7 = F 7 ∧ f 11 = rFl F
def Sk (c : Int32) (g F : Nat → Int32) : Prop := (F 17 = c ∨ F 17 = 0) ∧ (F 3 = 0 ∨ c = 0) ∧ ((F 2 = 0 ∨ c = 0) ∧ (F 2 = 0 ∨ F 3 = 0)) ∧ F 8 = g 8 ∧ F 9 = g 9 ∧ (F 10 = g 10 ∧ F 11 = 0) ∧ (Wd (F 0) ∧ Lo (F 7)) ∧ Bt (F 2) ∧ Bt (F 3) ∧ Bt (F 4) ∧ Bt (F 17) ∧ OkB F
def Si (c : Int32) (g f F : Nat → Int32) : Prop := Sm f F ∧ Sk c g F
theorem rFlags_eq (F : Nat → Int32) (a : Nat → Nat → Int32) : rFlags F a = rFl F := rfl
theorem rFl_n (F : Nat → Int32) {k : Nat} (v : Int32) (h : k < 12 ∨ 16 < k) : rFl (upd F k v) = rFl F := by
  unfold rFl
  rw [m_un F v (show 12 ≠ k by omega), m_un F v (show 13 ≠ k by omega), m_un F v (show 14 ≠ k by omega), m_un F v (show 15 ≠ k by omega), m_un F v (show 16 ≠ k by omega)]
theorem Si.u0 {c : Int32} {g f F : Nat → Int32} (h : Si c g f F) {v : Int32} (hv : Wd v) : Si c g (upd f 0 v) (upd F 0 v) := by
  obtain ⟨⟨h0, h1, h2, h3, h4, h5, h6, h7, h11⟩, k1, k2, k3, k4, k5, k6, k7, k8⟩ := h
  exact ⟨⟨rfl, h1, h2, h3, h4, h5, h6, h7, h11⟩, k1, k2, k3, k4, k5, k6, ⟨hv, k7.2⟩, k8⟩
theorem Si.u1 {c : Int32} {g f F : Nat → Int32} (h : Si c g f F) (v : Int32) : Si c g (upd f 1 v) (upd F 1 v) := by
  obtain ⟨⟨h0, h1, h2, h3, h4, h5, h6, h7, h11⟩, k⟩ := h
  exact ⟨⟨h0, rfl, h2, h3, h4, h5, h6, h7, h11⟩, k⟩
theorem Si.u5 {c : Int32} {g f F : Nat → Int32} (h : Si c g f F) (v : Int32) : Si c g (upd f 5 v) (upd F 5 v) := by
  obtain ⟨⟨h0, h1, h2, h3, h4, h5, h6, h7, h11⟩, k⟩ := h
  exact ⟨⟨h0, h1, h2, h3, h4, rfl, h6, h7, h11⟩, k⟩
theorem Si.u6 {c : Int32} {g f F : Nat → Int32} (h : Si c g f F) (v : Int32) : Si c g (upd f 6 v) (upd F 6 v) := by
  obtain ⟨⟨h0, h1, h2, h3, h4, h5, h6, h7, h11⟩, k⟩ := h
  exact ⟨⟨h0, h1, h2, h3, h4, h5, rfl, h7, h11⟩, k⟩
theorem Si.u7 {c : Int32} {g f F : Nat → Int32} (h : Si c g f F) {v : Int32} (hv : Lo v) : Si c g (upd f 7 v) (upd F 7 v) := by
  obtain ⟨⟨h0, h1, h2, h3, h4, h5, h6, h7, h11⟩, k1, k2, k3, k4, k5, k6, k7, k8⟩ := h
  exact ⟨⟨h0, h1, h2, h3, h4, h5, h6, rfl, h11⟩, k1, k2, k3, k4, k5, k6, ⟨k7.1, hv⟩, k8⟩
theorem Si.u4 {c : Int32} {g f F : Nat → Int32} (h : Si c g f F) {v : Int32} (hv : Bt v) : Si c g (upd f 4 v) (upd F 4 v) := by
  obtain ⟨⟨h0, h1, h2, h3, h4, h5, h6, h7, h11⟩, k1, k2, k3, k4, k5, k6, k7, k8, k9, k10, k11⟩ := h
  exact ⟨⟨h0, h1, h2, h3, rfl, h5, h6, h7, h11⟩, k1, k2, k3, k4, k5, k6, k7, k8, k9, hv, k11⟩
theorem Si.fl {c : Int32} {g f F F' : Nat → Int32} (h : Si c g f F) (hF : ∀ k, k < 12 ∨ k = 17 → F' k = F k) (hO : OkB F') {v : Int32} (hv : v = rFl F') : Si c g (upd f 11 v) F' := by
  obtain ⟨⟨h0, h1, h2, h3, h4, h5, h6, h7, h11⟩, k1, k2, k3, k4, k5, k6, k7, k8, k9, k10, k11, k12⟩ := h
  have e0 := hF 0 (by omega)
  have e1 := hF 1 (by omega)
  have e2 := hF 2 (by omega)
  have e3 := hF 3 (by omega)
  have e4 := hF 4 (by omega)
  have e5 := hF 5 (by omega)
  have e6 := hF 6 (by omega)
  have e7 := hF 7 (by omega)
  have e8 := hF 8 (by omega)
  have e9 := hF 9 (by omega)
  have e10 := hF 10 (by omega)
  have e17 := hF 17 (by omega)
  exact ⟨⟨h0.trans e0.symm, h1.trans e1.symm, h2.trans e2.symm, by rw [e3, e17]; exact h3, h4.trans e4.symm, h5.trans e5.symm, h6.trans e6.symm, h7.trans e7.symm, hv⟩,
    by rw [e17]; exact k1, by rw [e3]; exact k2, by rw [e2, e3]; exact k3, e8.trans k4, e9.trans k5, ⟨e10.trans k6.1, (hF 11 (by omega)).trans k6.2⟩, by rw [e0, e7]; exact k7, by rw [e2]; exact k8, by rw [e3]; exact k9, by rw [e4]; exact k10, by rw [e17]; exact k11, hO⟩
theorem Si.s0 {c : Int32} {g f F : Nat → Int32} (h : Si c g f F) : f 0 = F 0 := h.1.1
theorem Si.s1 {c : Int32} {g f F : Nat → Int32} (h : Si c g f F) : f 1 = F 1 := h.1.2.1
theorem Si.s11 {c : Int32} {g f F : Nat → Int32} (h : Si c g f F) : f 11 = rFl F := h.1.2.2.2.2.2.2.2.2
theorem Si.ok {c : Int32} {g f F : Nat → Int32} (h : Si c g f F) : OkB F := h.2.2.2.2.2.2.2.2.2.2.2.2
theorem Si.wd {c : Int32} {g f F : Nat → Int32} (h : Si c g f F) : Wd (F 0) := h.2.2.2.2.2.2.2.1.1
theorem Wd.of (x : Int32) : Wd (x &&& (65535 : Int32)) := by
  obtain ⟨j, hj, e⟩ := pk_andE x (m := 65535) 16 (by decide)
  exact ⟨j, hj, e⟩
/-! fetch, stack, registers -/
theorem m_uu (f : Nat → Int32) (k : Nat) (v w : Int32) : upd (upd f k v) k w = upd f k w := by
  funext j
  by_cases h : j = k
  · subst h; rw [m_us, m_us]
  · rw [m_un _ _ h, m_un _ _ h, m_un _ _ h]
theorem m_next {c : Int32} {g f F : Nat → Int32} {a : Nat → Nat → Int32} (h : Si c g f F) : (rNext F a).1 = (xFetch f a).1 ∧ Si c g (xFetch f a).2 (rNext F a).2 := by
  refine ⟨?_, ?_⟩
  · show rRead F a (F 1) = xRead a (f 1)
    rw [m_read, h.s1]
  · show Si c g (upd f 1 _) (upd F 1 _)
    rw [h.s1]
    exact h.u1 _
theorem m_nextTwo {c : Int32} {g f F : Nat → Int32} {a : Nat → Nat → Int32} (h : Si c g f F) : (rNextTwo F a).1 = (xFetchWord f a).1 ∧ Si c g (xFetchWord f a).2 (rNextTwo F a).2 := by
  have e : rNextTwo F a = (rRead F a (F 1) ||| ((rRead F a (((F 1) + (1 : Int32)) &&& (65535 : Int32))) <<< ((8 : Int32) &&& 31)), upd (upd F 1 (((F 1) + (1 : Int32)) &&& (65535 : Int32))) 1 (((((F 1) + (1 : Int32)) &&& (65535 : Int32)) + (1 : Int32)) &&& (65535 : Int32))) := rfl
  rw [e]
  refine ⟨?_, ?_⟩
  · show _ = xRead a (f 1) ||| ((xRead a (f 1 + (1 : Int32))) <<< ((8 : Int32) &&& 31))
    rw [m_read, m_read, m_readM, h.s1]
  · show Si c g (upd f 1 _) (upd (upd F 1 _) 1 _)
    rw [m_uu, m_mask, h.s1, show F 1 + (1 : Int32) + (1 : Int32) = F 1 + (2 : Int32) from by rw [Int32.add_assoc]; rfl]
    exact h.u1 _
theorem m_pop {c : Int32} {g f F : Nat → Int32} {a : Nat → Nat → Int32} (h : Si c g f F) : (rPop F a).1 = (xPop f a).1 ∧ Si c g (xPop f a).2 (rPop F a).2 := by
  refine ⟨?_, ?_⟩
  · show rRead F a (F 0) ||| ((rRead F a (((F 0) + (1 : Int32)) &&& (65535 : Int32))) <<< ((8 : Int32) &&& 31)) = xRead a (f 0) ||| ((xRead a (f 0 + (1 : Int32))) <<< ((8 : Int32) &&& 31))
    rw [m_read, m_read, m_readM, h.s0]
  · show Si c g (upd f 0 _) (upd F 0 _)
    rw [h.s0]
    exact h.u0 (Wd.of _)
theorem m_push {c : Int32} {g f F : Nat → Int32} {a : Nat → Nat → Int32} (h : Si c g f F) (v : Int32) : (rPush F a v).2 = (xPush f a v).2 ∧ Si c g (xPush f a v).1 (rPush F a v).1 := by
  refine ⟨?_, ?_⟩
  · show ua (ua a 1 (rWrite _ a _ v)) 1 (rWrite _ (ua a 1 (rWrite _ a _ v)) _ _) = ua a 1 (xWrite (ua a 1 (xWrite a _ v)) _ _)
    rw [m_aa, m_write, m_write, m_writeM, h.s0]
  · show Si c g (upd f 0 _) (upd F 0 _)
    rw [h.s0]
    exact h.u0 (Wd.of _)
theorem m_hl (f F : Nat → Int32) (a : Nat → Nat → Int32) : xPairAt f a (4 : Int32) = rHl F a := rfl
theorem By.mask {x : Int32} (h : By x) : x &&& (255 : Int32) = x := by
  obtain ⟨n, hn, rfl⟩ := h
  rw [pk_andN (by omega) 8 (by decide), Nat.mod_eq_of_lt (by omega)]
theorem By.of (x : Int32) : By (x &&& (255 : Int32)) := by
  obtain ⟨j, hj, e⟩ := pk_andE x (m := 255) 8 (by decide)
  exact ⟨j, hj, e⟩
theorem m_get (f F : Nat → Int32) (a : Nat → Nat → Int32) (r : Int32) : xOperand f a r = rGet F a (r &&& (7 : Int32)) := by
  unfold xOperand rGet
  by_cases h : r &&& (7 : Int32) = (6 : Int32)
  · rw [if_pos h, if_pos h, m_hl f F, m_read]
  · rw [if_neg h, if_neg h]
theorem m_set (f F : Nat → Int32) (a : Nat → Nat → Int32) (r v : Int32) (hv : By v) : xSetOperand f a r v = rSet F a (r &&& (7 : Int32)) v := by
  unfold xSetOperand rSet
  by_cases h : r &&& (7 : Int32) = (6 : Int32)
  · rw [if_pos h, if_pos h, m_hl f F, m_write]
  · rw [if_neg h, if_neg h, hv.mask]
