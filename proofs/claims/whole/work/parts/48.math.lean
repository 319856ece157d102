/-! sums of dots -/
def sf (G : Nat → Nat) : Nat → Nat → Nat
  | 0, _ => 0
  | n + 1, k => G k + sf G n (k + 1)
theorem sf_ext {G H : Nat → Nat} : ∀ (n k m : Nat), (∀ i, i < n → G (k + i) = H (m + i)) → sf G n k = sf H n m := by
  intro n
  induction n with
  | zero => intro k m _; rfl
  | succ n ih =>
    intro k m h
    show G k + sf G n (k + 1) = H m + sf H n (m + 1)
    rw [ih (k + 1) (m + 1) (fun i hi => by rw [show k + 1 + i = k + (i + 1) from by omega, show m + 1 + i = m + (i + 1) from by omega]; exact h (i + 1) (by omega)), show G k = H m from h 0 (by omega)]
theorem sf_add (G : Nat → Nat) : ∀ (n m k : Nat), sf G (n + m) k = sf G n k + sf G m (k + n) := by
  intro n
  induction n with
  | zero => intro m k; show sf G (0 + m) k = 0 + sf G m k; rw [Nat.zero_add, Nat.zero_add]
  | succ n ih =>
    intro m k
    rw [show n + 1 + m = (n + m) + 1 from by omega]
    show G k + sf G (n + m) (k + 1) = (G k + sf G n (k + 1)) + sf G m (k + (n + 1))
    rw [ih m (k + 1), show k + 1 + n = k + (n + 1) from by omega]
    omega
theorem sf_zero {G : Nat → Nat} : ∀ (n k : Nat), (∀ i, i < n → G (k + i) = 0) → sf G n k = 0 := by
  intro n
  induction n with
  | zero => intro k _; rfl
  | succ n ih =>
    intro k h
    show G k + sf G n (k + 1) = 0
    rw [ih (k + 1) (fun i hi => by rw [show k + 1 + i = k + (i + 1) from by omega]; exact h (i + 1) (by omega)), show G k = 0 from h 0 (by omega)]
theorem sf_back (G : Nat → Nat) (n k : Nat) : sf G (n + 1) k = sf G n k + G (k + n) := by
  rw [sf_add G n 1 k]; rfl
theorem sf_rev {G H : Nat → Nat} : ∀ (n k m : Nat), (∀ i, i < n → G (k + i) = H (m + (n - 1 - i))) → sf G n k = sf H n m := by
  intro n
  induction n with
  | zero => intro k m _; rfl
  | succ n ih =>
    intro k m h
    rw [sf_back H n m]
    show G k + sf G n (k + 1) = _
    rw [ih (k + 1) m (fun i hi => by rw [show k + 1 + i = k + (i + 1) from by omega, h (i + 1) (by omega), show n + 1 - 1 - (i + 1) = n - 1 - i from by omega]), show G k = H (m + n) from h 0 (by omega)]
    omega
theorem sf_eight (b : Nat → Nat) : ∀ (n k : Nat), sf (fun q => sf b 8 (8 * q)) n k = sf b (8 * n) (8 * k) := by
  intro n
  induction n with
  | zero => intro k; rfl
  | succ n ih =>
    intro k
    show sf b 8 (8 * k) + sf (fun q => sf b 8 (8 * q)) n (k + 1) = _
    rw [ih (k + 1), show 8 * (n + 1) = 8 + 8 * n from by omega, sf_add, show 8 * (k + 1) = 8 * k + 8 from by omega]
theorem sf_one {G : Nat → Nat} {c n : Nat} (hc : c < n) (h : ∀ j, j ≠ c → G j = 0) : sf G n 0 = G c := by
  rw [show n = c + ((n - c - 1) + 1) from by omega, sf_add, sf_zero c 0 (fun i hi => h _ (by omega))]
  show 0 + (G (0 + c) + sf G (n - c - 1) (0 + c + 1)) = G c
  rw [sf_zero (n - c - 1) (0 + c + 1) (fun i hi => h _ (by omega)), Nat.zero_add, Nat.zero_add, Nat.add_zero]
/-! the screen's bits -/
def rN (a : Nat → Nat → Int32) (i : Nat) : Nat := (a 1 i).toNatClampNeg
theorem rN_e {a : Nat → Nat → Int32} (hA : OkA a) (i : Nat) : a 1 i = nI (rN a i) ∧ rN a i < 256 := by
  obtain ⟨n, hn, e⟩ := hA.2.1 i
  have e2 : rN a i = n := by unfold rN; rw [e, nI_clamp (by omega)]
  rw [e2]
  exact ⟨e, hn⟩
def sb (a : Nat → Nat → Int32) (x j : Nat) : Nat := rN a (1024 + 32 * x + j / 8) / 2 ^ (j % 8) % 2
theorem m_shk : ∀ k : Fin 8, ∀ n : Fin 256, (nI n.val >>> (nI k.val &&& 31)) &&& (1 : Int32) = nI (n.val / 2 ^ k.val % 2) := by decide +kernel
theorem m_rBit (F : Nat → Int32) {a : Nat → Nat → Int32} (hA : OkA a) {x y : Nat} (hx : x < 224) (hy : y < 256) : rBit F a (nI x) (nI y) = nI (sb a x (255 - y)) := by
  unfold rBit
  have e1 : (255 : Int32) - nI y = nI (255 - y) := pk_sub (a := 255) (b := y) (by omega)
  have e2 : nI (255 - y) / (8 : Int32) = nI ((255 - y) / 8) := pk_div (a := 255 - y) (d := 8) (by omega) (by decide) (by decide)
  have e3 : nI (255 - y) - nI (255 - y) / (8 : Int32) * (8 : Int32) = nI ((255 - y) % 8) := pk_rem (a := 255 - y) (d := 8) (by omega) (by decide) (by decide)
  have e4 : ((1024 : Int32) + ((32 : Int32) * nI x)) + nI ((255 - y) / 8) = nI (1024 + 32 * x + (255 - y) / 8) := by
    rw [show (32 : Int32) * nI x = nI (32 * x) from pk_mul 32 x, show (1024 : Int32) + nI (32 * x) = nI (1024 + 32 * x) from nI_add 1024 (32 * x), nI_add]
  rw [e1, e3, e2, e4, nI_clamp (by omega)]
  obtain ⟨q1, q2⟩ := rN_e hA (1024 + 32 * x + (255 - y) / 8)
  rw [q1]
  exact m_shk ⟨(255 - y) % 8, by omega⟩ ⟨_, q2⟩
/-! the class's way: bytes under a mask -/
def pcN (n : Nat) : Nat := sf (fun b => n / 2 ^ b % 2) 8 0
def bs (v fr t : Nat) : Nat := sf (fun b => if fr ≤ b ∧ b < t then v / 2 ^ b % 2 else 0) 8 0
theorem m_pc : ∀ n : Fin 256, xBitCount (nI n.val) = nI (pcN n.val) := by decide +kernel
theorem m_mk : ∀ fr t : Fin 9, fr.val < t.val → ((255 : Int32) <<< (nI fr.val &&& 31)) &&& ((255 : Int32) >>> (((8 : Int32) - nI t.val) &&& 31)) = nI (2 ^ t.val - 2 ^ fr.val) := by decide +kernel
theorem m_bs0 : ∀ fr t : Fin 9, fr.val < t.val → ∀ v : Fin 256, pcN (v.val &&& (2 ^ t.val - 2 ^ fr.val)) = bs v.val fr.val t.val := by decide +kernel
theorem m_bs {fr t v : Nat} (ht : t < 9) (h : fr < t) (hv : v < 256) : xBitCount (nI v &&& (((255 : Int32) <<< (nI fr &&& 31)) &&& ((255 : Int32) >>> (((8 : Int32) - nI t) &&& 31)))) = nI (bs v fr t) := by
  have e1 : ((255 : Int32) <<< (nI fr &&& 31)) &&& ((255 : Int32) >>> (((8 : Int32) - nI t) &&& 31)) = nI (2 ^ t - 2 ^ fr) := m_mk ⟨fr, by omega⟩ ⟨t, ht⟩ h
  have e2 : pcN (v &&& (2 ^ t - 2 ^ fr)) = bs v fr t := m_bs0 ⟨fr, by omega⟩ ⟨t, ht⟩ h ⟨v, hv⟩
  have hl : v &&& (2 ^ t - 2 ^ fr) < 256 := Nat.lt_of_le_of_lt Nat.and_le_left hv
  rw [e1, nI_and2, show xBitCount (nI (v &&& (2 ^ t - 2 ^ fr))) = nI (pcN (v &&& (2 ^ t - 2 ^ fr))) from m_pc ⟨_, hl⟩, e2]
theorem bs_none {v fr t : Nat} (h : t ≤ fr) : bs v fr t = 0 := by
  unfold bs
  exact sf_zero 8 0 (fun i _ => if_neg (by omega))
theorem m_scr {a : Nat → Nat → Int32} {x k : Nat} (hx : x < 224) (hk : k < 32) : xRead a (((9216 : Int32) + ((32 : Int32) * nI x)) + nI k) = a 1 (1024 + 32 * x + k) := by
  have e4 : ((9216 : Int32) + ((32 : Int32) * nI x)) + nI k = nI (9216 + 32 * x + k) := by
    rw [show (32 : Int32) * nI x = nI (32 * x) from pk_mul 32 x, show (9216 : Int32) + nI (32 * x) = nI (9216 + 32 * x) from nI_add 9216 (32 * x), nI_add]
  rw [e4]
  have e5 : nI (9216 + 32 * x + k) &&& (16383 : Int32) = nI (9216 + 32 * x + k) := by rw [pk_andN (by omega) 14 (by decide), Nat.mod_eq_of_lt (by omega)]
  obtain ⟨m1, m2⟩ := m_low (nI (9216 + 32 * x + k))
  rw [e5] at m1 m2
  have nl : ¬ nI (9216 + 32 * x + k) < (8192 : Int32) := nI_nlt (b := 8192) (by omega) (by omega)
  unfold xRead
  rw [if_neg (fun z => nl (m1.mp z)), ← m2 nl, show nI (9216 + 32 * x + k) - (8192 : Int32) = nI (9216 + 32 * x + k - 8192) from pk_sub (b := 8192) (by omega), nI_clamp (by omega)]
  exact congrArg (a 1) (by omega)
