theorem xin_le {x : Int32} {n : Nat} (M : Int32) (hM : M.toInt + 1 = n) (h0 : ¬ x < 0) (h : x ≤ M) : vp_in x n := by
  rw [vp_in_iff]
  rw [Int32.lt_iff_toInt_lt, Int32.toInt_zero] at h0
  rw [Int32.le_iff_toInt_le] at h
  omega
theorem xin_ng {x : Int32} {n : Nat} (M : Int32) (hM : M.toInt + 1 = n) (h0 : ¬ x < 0) (h : ¬ M < x) : vp_in x n := by
  rw [vp_in_iff]
  rw [Int32.lt_iff_toInt_lt, Int32.toInt_zero] at h0
  rw [Int32.lt_iff_toInt_lt] at h
  omega
theorem xin_low (x : Int32) (h : ¬ (x &&& (16383 : Int32)) < (8192 : Int32)) : vp_in ((x &&& (16383 : Int32)) - (8192 : Int32)) 8192 := by
  obtain ⟨j, hj, e⟩ := pk_andE x (m := 16383) 14 (by decide)
  rw [e] at h ⊢
  have hj2 : 8192 ≤ j := by
    rcases Nat.lt_or_ge j 8192 with q | q
    · exact absurd (show nI j < nI 8192 from nI_lt q (by decide)) h
    · exact q
  rw [show (8192 : Int32) = nI 8192 from rfl, pk_sub hj2]
  exact vp_in_nI (by omega) (by decide)
theorem xin_p2 {p1 : Int32} (h1 : vp_in p1 4) (h3 : ¬ p1 = (3 : Int32)) : vp_in ((2 : Int32) * p1) 8 := by
  obtain ⟨j, hj, rfl⟩ := vp_in_of h1 (by decide)
  have : ∀ j : Fin 4, vp_in ((2 : Int32) * nI j.val) 8 := by unfold vp_in; decide +kernel
  exact this ⟨j, hj⟩
theorem xin_p21 {p1 : Int32} (h1 : vp_in p1 4) (h3 : ¬ p1 = (3 : Int32)) : vp_in (((2 : Int32) * p1) + (1 : Int32)) 8 := by
  obtain ⟨j, hj, rfl⟩ := vp_in_of h1 (by decide)
  have : ∀ j : Fin 4, vp_in (((2 : Int32) * nI j.val) + (1 : Int32)) 8 := by unfold vp_in; decide +kernel
  exact this ⟨j, hj⟩
theorem xin_sh1 {p1 : Int32} (h1 : vp_in p1 8) : vp_in (p1 >>> ((1 : Int32) &&& 31)) 4 := by
  obtain ⟨j, hj, rfl⟩ := vp_in_of h1 (by decide)
  have : ∀ j : Fin 8, vp_in (nI j.val >>> ((1 : Int32) &&& 31)) 4 := by unfold vp_in; decide +kernel
  exact this ⟨j, hj⟩
theorem xin_a7 (x : Int32) : vp_in (x &&& (7 : Int32)) 8 := pk_andIn _ 3 (by decide) (by decide)
theorem xin_e16 {q : Int32} (hq : vp_in q 2) (k : Nat) (hk : k < 8) : vp_in (((8 : Int32) * q) + nI k) 16 := by
  obtain ⟨j, hj, rfl⟩ := vp_in_of hq (by decide)
  have : ∀ j : Fin 2, ∀ k : Fin 8, vp_in (((8 : Int32) * nI j.val) + nI k.val) 16 := by unfold vp_in; decide +kernel
  exact this ⟨j, hj⟩ ⟨k, hk⟩
