/-! THE LAW'S CASES -/
def wL (cI cL : ClassId) (o : Nat → Nat) (ob : Nat) (g f : Nat → Int32) (a : Nat → Nat → Int32) (F : Nat → Int32) (aR : Nat → Nat → Int32) (w : Nat → Int64) : va_W := wX cI o g f a ++ (wR cI o F aR ++ [(ob, .inl (cL, 1, .inr (.inl w)))])
/-- what holds at the law's entry and stays -/
def LC (p : Program) (l : Launch) (s : State) (m : MethodId) (c : Code) (D : va_G) (cI cL : ClassId) (tS : Nat) (sc : Nat → Nat) (b L : Nat) (xs : Nat → Int32) : Prop :=
  l.stackTraces = false ∧ p.tables.exec = Jvm.exec ∧ c.code = cL_law ∧ c.maxLocals = 7 ∧ s.vm.findClass RL = some m.cls ∧ (∀ w ∈ wsL_law, w.before #[Value.ref b] s = true) ∧ va_X b L xs s s.heap ∧ b < s.heap.size ∧ va_K D vwCl [(cI, .int)] s ∧ va_K D vwCl [(cL, .long)] s ∧ sG tS sc (fun q : Nat => s.heap.size ≤ q) s s.heap
/-- the loop's step, reached with any world in which class and reference agree -/
def LN (p : Program) (l : Launch) (e : Env) (s : State) (m : MethodId) (below : List Frame) (meth : Method) (c : Code) (D : va_G) (cI cL : ClassId) (o : Nat → Nat) (ob b : Nat) (x4 : Int32) (cells slots : Nat) (Q : State → Prop) : Prop :=
  ∀ (g f F : Nat → Int32) (a : Nat → Nat → Int32) (w : Nat → Int64) (H : Heap) (locs : List Loc) (ls : Array Slot), Mid g f F → OkA a → va_P D vwCl (wL cI cL o ob g f a F a w) H → va_D (fun q : Nat => s.heap.size ≤ q) (wL cI cL o ob g f a F a w) → va_S (fun q : Nat => s.heap.size ≤ q) s.heap H locs →
    lv_has ls 7 [(0, .ref b), (1, .ref (o 10)), (2, .ref (o 20)), (3, .ref ob), (4, .int x4)] → W p l e room_1 s m #[Value.ref b] below meth c H locs cells slots Q (F0 m 667 ls [])
theorem lw_lcmp0 {p : Program} {l : Launch} {e : Env} {R : Room} {s : State} {m : MethodId} {args : Array Value} {below : List Frame} {meth : Method} {c : Code} {H : Heap} {locs : List Loc} {cells slots : Nat} {Q : State → Prop} {cc : ByteArray} {pc : Nat} {ls : Array Slot} {rest : List Value}
    (hexec : p.tables.exec = Jvm.exec) (hb : c.code = cc) {x y : Int64} (hxy : x = y) (hdg : decode cc pc = .ok (.lcmp, 1))
    (k : W p l e R s m args below meth c H locs cells slots Q (F0 m (pc + 1) ls (.int 0 :: rest))) : W p l e R s m args below meth c H locs cells slots Q (F0 m pc ls (.long y :: .long x :: rest)) := by
  subst hxy
  have h1 : ¬ x > x := by
    rw [gt_iff_lt, Int64.lt_iff_toInt_lt]
    omega
  intro T hT X
  obtain ⟨t, a, b⟩ := k T hT X
  refine ⟨t, ?_, b⟩
  jvm_step X.here [X.here.top, hexec, hb, hdg, h1]
  exact a
theorem th_ua (a : Nat → Nat → Int32) (k : Nat) : ua a k (a k) = a := by
  funext j
  unfold ua
  by_cases h : j = k
  · rw [if_pos h, h]
  · rw [if_neg h]
theorem th_load {g f : Nat → Int32} {a : Nat → Nat → Int32} {p1 p2 p3 : Int32} (h : xLoadX g f a p1 p2 p3 = true) : (xLoad g f a p1 p2 p3).2 = a 0 := by
  unfold xLoadX at h
  unfold xLoad
  by_cases q1 : p3 < (1 : Int32)
  · rw [if_pos q1]
  · rw [if_neg q1] at h ⊢
    by_cases q2 : p3 ≤ (4 : Int32)
    · rw [if_pos q2] at h ⊢
      by_cases q3 : p1 < 0
      · rw [if_pos q3]
      · rw [if_neg q3] at h ⊢
        by_cases q4 : p1 ≤ ((2048 : Int32) - p3)
        · rw [if_pos q4] at h
          exact absurd h (by decide)
        · rw [if_neg q4]
    · rw [if_neg q2]
theorem th_input {g f : Nat → Int32} {a : Nat → Nat → Int32} {p1 p2 : Int32} (h : xInputX g f a p1 p2 = true) : xInput g f a p1 p2 = a 3 := by
  unfold xInputX at h
  unfold xInput
  by_cases q1 : p1 < 0
  · rw [if_pos q1]
  · rw [if_neg q1] at h ⊢
    by_cases q2 : p1 < (3 : Int32)
    · rw [if_pos q2] at h
      exact absurd h (by decide)
    · rw [if_neg q2]
theorem th_run {g f : Nat → Int32} {a : Nat → Nat → Int32} {p1 : Int32} (h : xRunX g f a p1 = true) : xRun g f a p1 = ((0 : Int32), g, f, a) := by
  unfold xRunX at h
  unfold xRun
  by_cases q1 : p1 < (1 : Int32)
  · rw [if_pos q1]
  · rw [if_neg q1] at h ⊢
    by_cases q2 : p1 ≤ (40000 : Int32)
    · rw [if_pos q2] at h
      exact absurd h (by decide)
    · rw [if_neg q2]
theorem th_cd (F : Nat → Int32) (v : Int32) : upd F 11 v 11 = v := if_pos rfl
theorem th_out (w : Nat → Int64) (v : Int64) : vp_updL w (0 : Int32).toNatClampNeg v (0 : Int32).toNatClampNeg = v := if_pos rfl
theorem th_rd {F : Nat → Int32} {a : Nat → Nat → Int32} (h : OkA a) (q : Int32) : ¬ rRead F a q < 0 := by
  rw [m_read]
  obtain ⟨n, hn, e⟩ := by_read h q
  rw [e]
  exact nI_pos (by omega)
theorem th_bt {x : Int32} (h : Bt x) : narrow .boolean (.int x) = .int x ∧ fits .boolean (.int x) = true := by
  rcases h with h | h <;> subst h <;> exact ⟨by decide, by decide⟩
