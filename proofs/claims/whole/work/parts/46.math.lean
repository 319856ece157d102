/-! a run: the class's wait in one piece beside the reference's states one by one -/
theorem m_rdy (F : Nat → Int32) (v : Int32) : upd (upd (upd F 11 (0 : Int32)) 8 v) 11 (0 : Int32) = upd (upd F 11 (0 : Int32)) 8 v := by
  rw [m_uc (upd F 11 (0 : Int32)) (i := 8) (j := 11) (by decide), m_uu]
theorem m_finP {F : Nat → Int32} {a : Nat → Nat → Int32} {s : Nat} (e8 : F 8 = nI s) (hs : s + 1 < 33333) (hp : s < 16667 → s + 1 < 16667) : rFin F a (1 : Int32) = ((1 : Int32), upd F 8 (nI (s + 1)), a) := by
  unfold rFin
  rw [e8, m_i8]
  by_cases q : 16667 ≤ s
  · rw [if_pos ((m_i1 (by omega)).mpr q), if_pos ((m_i2 (by omega)).mpr hs)]
  · rw [if_neg (fun z => q ((m_i1 (by omega)).mp z)), if_pos ((m_i3 (by omega)).mpr (hp (by omega))), if_pos ((m_i2 (by omega)).mpr hs)]
theorem m_mid8 {g f F : Nat → Int32} (h : Mid g f F) {s : Nat} (hs : s < 33333) : Mid (upd g 8 (nI s)) f (upd (upd F 11 (0 : Int32)) 8 (nI s)) := (h.cd (0 : Int32)).st ⟨s, hs, rfl⟩
theorem rRunL_go {L t : Nat} (hL : L < 50000) (ht : t < L) (n : Nat) (F : Nat → Int32) (a : Nat → Nat → Int32) {m : Nat} {F1 : Nat → Int32} {a1 : Nat → Nat → Int32} (e : rStep F a = (nI m, F1, a1)) : rRunL (nI L) (n + 1) (nI t) F a = rRunL (nI L) n (nI (t + m)) F1 a1 := by
  show (if nI L ≤ nI t then (nI t, F, a) else (match rStep F a with | (r, f1, a1) => rRunL (nI L) n (nI t + r) f1 a1)) = _
  rw [if_neg (nI_ge ht (by omega)), e]
  dsimp only
  rw [nI_add]
theorem xRunL_go {L t : Nat} (hL : L < 50000) (ht : t < L) (n k : Nat) (g f : Nat → Int32) (a : Nat → Nat → Int32) {m : Nat} {g1 f1 : Nat → Int32} {a1 : Nat → Nat → Int32} (e : xAdvance g f a (nI (L - t)) = (nI m, g1, f1, a1)) : xRunL (nI L) (n + 1) k (nI t) g f a = xRunL (nI L) n (k + 1) (nI (t + m)) g1 f1 a1 := by
  show (if nI L ≤ nI t then (nI t, g, f, a) else (match xAdvance g f a (nI L - nI t) with | (r, g1, f1, a1) => xRunL (nI L) n (k + 1) (nI t + r) g1 f1 a1)) = _
  rw [if_neg (nI_ge ht (by omega)), pk_sub (by omega), e]
  dsimp only
  rw [nI_add]
/-- plain states, one by one -/
theorem m_plain {g f F : Nat → Int32} {a : Nat → Nat → Int32} (h : Mid g f F) (hw : Wt g f) {L : Nat} (hL : L < 50000) : ∀ (i s t fuel : Nat), s + i < 33333 → (s < 16667 → s + i < 16667) → t + i ≤ L →
    rRunL (nI L) (fuel + i) (nI t) (upd (upd F 11 (0 : Int32)) 8 (nI s)) a = rRunL (nI L) fuel (nI (t + i)) (upd (upd F 11 (0 : Int32)) 8 (nI (s + i))) a := by
  intro i
  induction i with
  | zero => intro s t fuel _ _ _; rfl
  | succ i ih =>
    intro s t fuel h1 h2 h3
    have hm := m_mid8 h (s := s) (by omega)
    have e : rStep (upd (upd F 11 (0 : Int32)) 8 (nI s)) a = (nI 1, upd (upd F 11 (0 : Int32)) 8 (nI (s + 1)), a) := by
      rw [(m_wt (g := upd g 8 (nI s)) (f := f) (a := a) hm hw (1 : Int32)).2, m_rdy, m_finP (s := s) rfl (by omega) (by omega), m_uu]
      rfl
    rw [show fuel + (i + 1) = fuel + i + 1 from by omega, rRunL_go hL (by omega) _ _ _ e, ih (s + 1) (t + 1) fuel (by omega) (by omega) (by omega), show t + 1 + i = t + (i + 1) from by omega, show s + 1 + i = s + (i + 1) from by omega]
/-- the class's piece ends as the reference's last state does -/
theorem m_passW {g : Nat → Int32} {s j : Nat} (e : g 8 = nI s) (hs : s + j + 1 < 70000) (hj : 16667 ≤ s ↔ 16667 ≤ s + j) : xPass (upd g 8 (nI (s + j))) (nI 1) = xPass g (nI (j + 1)) := by
  have e1 : (upd g 8 (nI (s + j))) 8 = nI (s + j) := rfl
  have e9 : (upd g 8 (nI (s + j))) 9 = g 9 := rfl
  have a1 : nI (s + j) + nI 1 = nI (s + j + 1) := nI_add _ _
  have a2 : nI s + nI (j + 1) = nI (s + j + 1) := by rw [nI_add]; rfl
  have ee : ((16667 : Int32) ≤ nI (s + j)) ↔ ((16667 : Int32) ≤ nI s) := by rw [m_i1 (by omega), m_i1 (by omega)]; exact hj.symm
  unfold xPass
  rw [e1, e9, e, a1, a2]
  simp only [m_uu]
  by_cases q : (16667 : Int32) ≤ nI s
  · rw [if_pos (ee.mpr q), if_pos q]
  · rw [if_neg (fun z => q (ee.mp z)), if_neg q]
theorem m_finW {g f : Nat → Int32} {a : Nat → Nat → Int32} {s j : Nat} (e : g 8 = nI s) (hs : s + j + 1 < 70000) (hj : 16667 ≤ s ↔ 16667 ≤ s + j) {g2 f2 : Nat → Int32} {a2 : Nat → Nat → Int32} (h : xFin (upd g 8 (nI (s + j))) f a (nI 1) = (nI 1, g2, f2, a2)) : xFin g f a (nI (j + 1)) = (nI (j + 1), g2, f2, a2) := by
  unfold xFin at h ⊢
  rw [m_passW e hs hj] at h
  generalize xPass g (nI (j + 1)) = X at h ⊢
  obtain ⟨r, g4⟩ := X
  dsimp only at h ⊢
  by_cases q : r = 0
  · rw [if_pos q] at h ⊢
    rw [(Prod.mk.inj h).2]
  · rw [if_neg q] at h ⊢
    generalize xEndFrame f a = Y at h ⊢
    obtain ⟨r6, f7⟩ := Y
    dsimp only at h ⊢
    by_cases q6 : r6 = 0
    · rw [if_pos q6] at h ⊢
      rw [(Prod.mk.inj h).2]
    · rw [if_neg q6] at h ⊢
      generalize xResetParts g4 (upd f 7 f7) a = Z at h ⊢
      obtain ⟨z1, z2, z3⟩ := Z
      dsimp only at h ⊢
      rw [(Prod.mk.inj h).2]
/-- a wait of k states -/
theorem m_waitK {g f F : Nat → Int32} {a : Nat → Nat → Int32} (h : Mid g f F) (hA : OkA a) (hw : Wt g f) {L t : Nat} (hL : L < 50000) (ht : t < L) : ∃ (k : Nat) (g2 f2 F2 : Nat → Int32) (a2 : Nat → Nat → Int32), (1 ≤ k ∧ t + k ≤ L) ∧ xAdvance g f a (nI (L - t)) = (nI k, g2, f2, a2) ∧ (∀ fuel : Nat, rRunL (nI L) (fuel + k) (nI t) F a = rRunL (nI L) fuel (nI (t + k)) F2 a2) ∧ Mid g2 f2 F2 ∧ OkA a2 ∧ F2 11 = 0 := by
  obtain ⟨s, hs, e8⟩ := h.2.2.1.2.2.1
  have g8 := h.2.1.1.trans e8
  obtain ⟨u1, u2, u3⟩ := m_until hs g8
  have hk : ∃ j : Nat, min (untN s) (L - t) = j + 1 := ⟨min (untN s) (L - t) - 1, by omega⟩
  obtain ⟨j, ej⟩ := hk
  have hj1 : j + 1 ≤ untN s := by omega
  have hj2 : j + 1 ≤ L - t := by omega
  have hj3 : (s + j < 33333) ∧ (s < 16667 → s + j < 16667) := by
    unfold untN at hj1
    by_cases q : 16667 ≤ s
    · rw [if_pos q] at hj1; omega
    · rw [if_neg q] at hj1; omega
  have hm := m_mid8 h (s := s + j) hj3.1
  obtain ⟨g2, f2, F2, a2, y1, y2, y3, y4, y5⟩ := m_fin hm hA (cn_lit (m := 1) (by decide) (by decide))
  refine ⟨j + 1, g2, f2, F2, a2, ⟨by omega, by omega⟩, ?_, ?_, y3, y4, y5⟩
  · rw [(m_wt (a := a) h hw _).1, u1, m_min (by omega) (by omega), ej]
    exact m_finW g8 (by omega) (by omega) y1
  · intro fuel
    have eF : upd (upd F 11 (0 : Int32)) 8 (nI s) = upd F 11 (0 : Int32) := by rw [← e8]; exact upd_id (upd F 11 (0 : Int32)) 8
    have e0 : rRunL (nI L) (fuel + (j + 1)) (nI t) F a = rRunL (nI L) (fuel + (j + 1)) (nI t) (upd (upd F 11 (0 : Int32)) 8 (nI s)) a := by
      rw [eF, show fuel + (j + 1) = fuel + j + 1 from by omega]
      have es : rStep (upd F 11 (0 : Int32)) a = rStep F a := by rw [rStep_eq, rStep_eq, m_uu]
      unfold rRunL
      rw [if_neg (nI_ge ht (by omega)), if_neg (nI_ge ht (by omega)), es]
    have el : rStep (upd (upd F 11 (0 : Int32)) 8 (nI (s + j))) a = (nI 1, F2, a2) := by
      rw [(m_wt (g := upd g 8 (nI (s + j))) (f := f) (a := a) hm hw (1 : Int32)).2, m_rdy]
      exact y2
    rw [e0, show fuel + (j + 1) = fuel + 1 + j from by omega, m_plain h hw hL j s t (fuel + 1) hj3.1 hj3.2 (by omega), rRunL_go hL (by omega) _ _ _ el]
    rfl
theorem m_runL {L : Nat} (hL : L ≤ 40000) : ∀ (d t : Nat), t < 50000 → L - t ≤ d → ∀ (n k nr : Nat) (g f F : Nat → Int32) (a : Nat → Nat → Int32), L - t ≤ n → L - t ≤ nr → Mid g f F → OkA a → F 11 = 0 →
    ∃ (v : Int32) (g2 f2 F2 : Nat → Int32) (a2 : Nat → Nat → Int32), xRunL (nI L) n k (nI t) g f a = (v, g2, f2, a2) ∧ rRunL (nI L) nr (nI t) F a = (v, F2, a2) ∧ Mid g2 f2 F2 ∧ OkA a2 ∧ F2 11 = 0 := by
  intro d
  induction d with
  | zero =>
    intro t ht hd n k nr g f F a hn hnr h hA h0
    have hle : nI L ≤ nI t := nI_le (by omega) (by omega)
    refine ⟨nI t, g, f, F, a, ?_, ?_, h, hA, h0⟩
    · cases n with
      | zero => rfl
      | succ n => unfold xRunL; rw [if_pos hle]
    · cases nr with
      | zero => rfl
      | succ n => unfold rRunL; rw [if_pos hle]
  | succ d ih =>
    intro t ht hd n k nr g f F a hn hnr h hA h0
    by_cases q : L ≤ t
    · exact ih t ht (by omega) n k nr g f F a hn hnr h hA h0
    · obtain ⟨n', rfl⟩ : ∃ n', n = n' + 1 := ⟨n - 1, by omega⟩
      by_cases hw : Wt g f
      · obtain ⟨m, g1, f1, F1, a1, ⟨m1, m2⟩, x1, x2, x3, x4, x5⟩ := m_waitK h hA hw (L := L) (t := t) (by omega) (by omega)
        obtain ⟨fu, rfl⟩ : ∃ fu, nr = fu + m := ⟨nr - m, by omega⟩
        rw [xRunL_go (by omega) (by omega) n' k g f a x1, x2 fu]
        exact ih (t + m) (by omega) (by omega) n' (k + 1) fu g1 f1 F1 a1 (by omega) (by omega) x3 x4 x5
      · obtain ⟨v, g1, f1, F1, a1, x1, x2, x3, x4, ⟨m, m1, m2, rfl⟩, x5⟩ := m_go h hA hw (nI (L - t))
        obtain ⟨fu, rfl⟩ : ∃ fu, nr = fu + 1 := ⟨nr - 1, by omega⟩
        rw [xRunL_go (by omega) (by omega) n' k g f a x1, rRunL_go (by omega) (by omega) fu F a x2]
        exact ih (t + m) (by omega) (by omega) n' (k + 1) fu g1 f1 F1 a1 (by omega) (by omega) x3 x4 x5
