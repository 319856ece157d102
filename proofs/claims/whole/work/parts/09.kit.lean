/-! OWN ROWS: contracts with one answer and one world behind (KC), their start, their ends, their calls -/
def rmD (d : Nat) : Room := { frames := d, cells := 0, slots := 0, locals := 40 * d }
def kp_ (D : va_G) (cI : ClassId) (ws : va_W) (sz : Nat) : State → Prop := fun U => U.heap.size = sz ∧ va_P D vwCl ws U.heap ∧ va_K D vwCl [(cI, .int)] U ∧ va_D (fun _ => True) ws
def kb_ (D : va_G) (cI : ClassId) (w1 : va_W) (A : Nat → Prop) : State → Prop := fun t => va_P D vwCl w1 t.heap ∧ va_K D vwCl [(cI, .int)] t ∧ va_D A w1
def kq_ (D : va_G) (cI : ClassId) (v : Option Value) (w1 : va_W) (A : Nat → Prop) : Array Value → State → Outcome → State → Prop := fun _ st oc t => oc = .returned v ∧ kb_ D cI w1 A t ∧ va_F A st t
/-- method y, from the world wc with the values av: it returns v, and its world is w1; nothing else has moved, nothing was made -/
def KC (l : Launch) (y : MethodName) (ws : List Cond) (d : Nat) (av : List Value) (D : va_G) (cI : ClassId) (wc w1 : va_W) (v : Option Value) : Prop :=
  ∀ sz : Nat, Met l y ws (rmD d) (va_Pc av (kp_ D cI wc sz)) (kq_ D cI v w1 (va_A wc sz)) 0 0 (va_A wc sz)
theorem kp_blind {D : va_G} {cI : ClassId} {ws : va_W} {sz : Nat} {av : List Value} : FrameBlind (va_Pc av (kp_ D cI ws sz)) :=
  fun a U g mk q => by
    obtain ⟨q0, q1, qP, qK, qD⟩ := q
    exact ⟨q0, q1, qP, va_K.moved (u := U) (U := U.calling g mk a) (Vm.Alike.refl U.vm) qK, qD⟩
theorem k_fm {α β : Type} {f : α → Option β} : ∀ {is : List α} {w : List β}, is.map f = w.map some → is.filterMap f = w
  | [], [], _ => rfl
  | [], b :: w, h => by simp at h
  | i :: is, [], h => by simp at h
  | i :: is, b :: w, h => by
    simp only [List.map_cons, List.cons.injEq] at h
    rw [List.filterMap_cons, h.1]
    exact congrArg (b :: ·) (k_fm h.2)
theorem k_ex2 {A B : Type} (x : A × B) : ∃ (a : A) (b : B), x = (a, b) := ⟨x.1, x.2, rfl⟩
theorem k_ex3 {A B C : Type} (x : A × B × C) : ∃ (a : A) (b : B) (c : C), x = (a, b, c) := ⟨x.1, x.2.1, x.2.2, rfl⟩
theorem k_ex4 {A B C D : Type} (x : A × B × C × D) : ∃ (a : A) (b : B) (c : C) (d : D), x = (a, b, c, d) := ⟨x.1, x.2.1, x.2.2.1, x.2.2.2, rfl⟩
theorem k_ex5 {A B C D E : Type} (x : A × B × C × D × E) : ∃ (a : A) (b : B) (c : C) (d : D) (e : E), x = (a, b, c, d, e) := ⟨x.1, x.2.1, x.2.2.1, x.2.2.2.1, x.2.2.2.2, rfl⟩
section KK
variable {p : Program} {l : Launch} {e : Env} {R : Room} {s : State} {m : MethodId} {args : Array Value} {below : List Frame} {meth : Method} {c : Code} {H : Heap} {locs : List Loc} {cells slots : Nat} {Q : State → Prop}
variable {D : va_G} {cI : ClassId} {A : Nat → Prop} {cc : ByteArray} {pc : Nat} {ls : Array Slot} {rest st0 : List Value}
theorem KC.of {y : MethodName} {ws ws' : List Cond} {d : Nat} {av : List Value} {wc w1 : va_W} {v : Option Value} {maxL : Nat} {ret : Option FieldType} (hy : plainName y.cls = true) (hw : ws = Cond.code y cc maxL ret :: ws') (hlen : (lg_sl av).length ≤ maxL)
    (body : ∀ (p : Program) (e : Env) (s : State) (m : MethodId) (below : List Frame) (meth : Method) (c : Code) (A : Nat → Prop), p.tables.exec = Jvm.exec → c.code = cc → meth.sig.returnType = ret → (∀ w ∈ ws, w.before av.toArray s = true) → s.vm.findClass y.cls = some m.cls → meth.locks = false → c.maxLocals = maxL →
      va_K D vwCl [(cI, .int)] s → va_P D vwCl wc s.heap → va_D A wc → va_S A s.heap s.heap [] → (∀ q : Nat, s.heap.size ≤ q → A q) → ∀ ls : Array Slot, lv_has ls maxL (lv_args 0 av) →
      W p l e (rmD d) s m av.toArray below meth c s.heap [] 0 0 (MQ below (kq_ D cI v w1 A) av.toArray s 0 0 A) (F0 m 0 ls [])) : KC l y ws d av D cI wc w1 v := by
  intro sz
  refine Met.ofW (cc := cc) (maxL := maxL) (ret := ret) hy hw ?_
  intro p e s m args below meth c s₁ B hml hv
  obtain ⟨rfl, hsz, hP, hK, hD0⟩ := hv
  subst hsz
  have hts := atoms_spec (ws := ws) B.pre
  have hown : s.vm.findClass y.cls = some m.cls := findClass_of_methodNamed B.named
  have hl := lv_entry av (n := maxL) hlen
  rw [lg_entry_eq]
  exact body p e s m below meth c _ B.exec B.bytes B.returns hts hown B.notSynchronized hml hK hP hD0.self va_S.rf (fun q h => Or.inr h) _ hl
theorem KC.reti {w1 : va_W} {v : Option Value} {x : Int32} (hx : p.tables.exec = Jvm.exec) (hb : c.code = cc) (hr : meth.sig.returnType = some .int) (hlocks : meth.locks = false) (hK : va_K D vwCl [(cI, .int)] s) (hP : va_P D vwCl w1 H) (hD : va_D A w1) (hS : va_S A s.heap H locs)
    (hdg : decode cc pc = .ok (.ireturn, 1)) (hv : v = some (.int x)) : W p l e R s m args below meth c H locs 0 0 (MQ below (kq_ D cI v w1 A) args s 0 0 A) (F0 m pc ls [.int x]) := by
  subst hv
  exact W.iret hx hb hr (fun t ht hW => ⟨rfl, ⟨by rw [ht]; exact hP, va_K.moved hW.alike hK, hD⟩, hS.F ht⟩) hS.2.2 hdg hlocks
theorem KC.retz {w1 : va_W} {v : Option Value} {x : Int32} (hx : p.tables.exec = Jvm.exec) (hb : c.code = cc) (hr : meth.sig.returnType = some .boolean) (hlocks : meth.locks = false) (hK : va_K D vwCl [(cI, .int)] s) (hP : va_P D vwCl w1 H) (hD : va_D A w1) (hS : va_S A s.heap H locs)
    (hdg : decode cc pc = .ok (.ireturn, 1)) (hn : narrow .boolean (.int x) = .int x) (hv : v = some (.int x)) : W p l e R s m args below meth c H locs 0 0 (MQ below (kq_ D cI v w1 A) args s 0 0 A) (F0 m pc ls [.int x]) := by
  subst hv
  exact W.zret hx hb hr hn (fun t ht hW => ⟨rfl, ⟨by rw [ht]; exact hP, va_K.moved hW.alike hK, hD⟩, hS.F ht⟩) hS.2.2 hdg hlocks
theorem KC.retv {w1 : va_W} (hx : p.tables.exec = Jvm.exec) (hb : c.code = cc) (hr : meth.sig.returnType = none) (hlocks : meth.locks = false) (hK : va_K D vwCl [(cI, .int)] s) (hP : va_P D vwCl w1 H) (hD : va_D A w1) (hS : va_S A s.heap H locs)
    (hdg : decode cc pc = .ok (.return_, 1)) : W p l e R s m args below meth c H locs 0 0 (MQ below (kq_ D cI none w1 A) args s 0 0 A) (F0 m pc ls []) :=
  W.vret hx hb hr (fun t ht hW => ⟨rfl, ⟨by rw [ht]; exact hP, va_K.moved hW.alike hK, hD⟩, hS.F ht⟩) hS.2.2 hdg hlocks
/-- behind a call that made nothing -/
theorem k_after {mc ms : Nat} {a : Array Value} {A1 : Nat → Prop} {w1 : va_W} {v : Option Value} (hr : va_Run p l e R s m args below meth c H locs cells slots mc ms (F0 m pc ls st0) rest (kq_ D cI v w1 A1 a) A1) (hS : va_S A s.heap H locs) (hA : ∀ q, A1 q → A q)
    (kk : ∀ (H1 : Heap) (locs1 : List Loc), va_P D vwCl w1 H1 → va_D A1 w1 → (∀ q : Nat, q < H.size → ¬ A1 q → H1[q]? = H[q]?) → va_S A s.heap H1 locs1 → W p l e R s m args below meth c H1 locs1 (cells + mc) (slots + ms) Q (F0 m (pc + 3) ls (v.toList ++ rest))) : W p l e R s m args below meth c H locs cells slots Q (F0 m pc ls st0) := by
  intro T hT X
  obtain ⟨v', st₀, t, T', L, h0, X', hL, e1, e2, ⟨hv, ⟨hp, hk', hd⟩, hz, hk⟩, st⟩ := hr T hT X
  cases hv
  rw [h0] at hz hk
  obtain ⟨t2, a1, b1⟩ := kk T'.heap (locs ++ L) (by rw [e1]; exact hp) hd (fun q h1 h2 => by rw [e1]; exact hk q h1 h2)
    ⟨Nat.le_trans hS.1 (by rw [e1]; exact hz), fun q h1 h2 => by rw [e1, hk q (Nat.lt_of_lt_of_le h1 hS.1) (fun z => h2 (hA q z))]; exact hS.2.1 q h1 h2, fun q hq => by
      rcases List.mem_append.mp hq with h | h
      · exact hS.2.2 q h
      · exact hA _ (hL q h)⟩ T' rfl X'
  exact ⟨t2, st t2 a1, b1⟩
theorem KC.call {y : MethodName} {wsY Ts : List Cond} {d n index maxL nL : Nat} {own C : String} {bytes : ByteArray} {ret : Option FieldType} {b : Nat} {As : List Value} {ws wc w1 wr wt : va_W} {v : Option Value} {ci : Nat} {fs : List Value} {qc : vw_C}
    (hM : KC l y wsY d (.ref b :: As) D cI wc w1 v) (cw : CallW R s args own C index y bytes maxL ret wsY (rmD d) 0 0 n) (F : CallFix p m c cc nL s args Ts own)
    (hK : va_K D vwCl [(cI, .int)] s) (hP : va_P D vwCl ws H) (hD : va_D A ws) (hS : va_S A s.heap H locs) (hA : ∀ q, s.heap.size ≤ q → A q)
    (hrc : wc[0]? = some (b, .inr (ci, fs))) (hcl : vwCl[ci]? = some qc) (hqC : qc.1 = C)
    (isC isR perm : List Nat) (hnC : va_nd isC = true) (hC : isC.map (fun i => ws[i]?) = wc.map some) (hR : isR.map (fun i => ws[i]?) = wr.map some) (hn : va_nd isR = true) (hdis : ∀ i ∈ isR, i ∉ isC) (hnp : va_nd perm = true) (hp : perm.map (fun i => (wr ++ w1)[i]?) = wt.map some)
    (hAs : As.length = n) (hsz : ls.size = nL) (hst : st0 = As.reverse ++ .ref b :: rest) (hW : (rest.map fun v => v.category).sum ≤ 8) (hdg : decode cc pc = .ok (.invokevirtual index, 3)) (hf : cells ≤ R.cells ∧ slots ≤ R.slots)
    (kk : ∀ (H1 : Heap) (locs1 : List Loc), va_P D vwCl wt H1 → va_D A wt → va_S A s.heap H1 locs1 → W p l e R s m args below meth c H1 locs1 cells slots Q (F0 m (pc + 3) ls (v.toList ++ rest))) : W p l e R s m args below meth c H locs cells slots Q (F0 m pc ls st0) := by
  subst hqC
  have hPc := hP.sub isC (k_fm hC)
  have hDc := hD.sub isC hnC hC
  have hFc := va_free hD hS hA isC hC
  have run := va_runV (e := e) (below := below) (meth := meth) (locs := locs) (g := F0 m pc ls st0) (rest := rest) F (hM H.size) cw ⟨kp_blind, va_recv hK hPc hcl hrc, fun U hU hW => ⟨rfl, by rw [hU], by rw [hU]; exact hPc, va_K.moved hW.alike hK, hDc.weaken (fun _ _ _ _ => trivial)⟩⟩ rfl hAs hsz hst (lv_room hW) hdg hf
  refine k_after (mc := 0) (ms := 0) run hS hFc (fun H1 locs1 hP1 hD1 hk1 hS1 => ?_)
  obtain ⟨hP2, hD2⟩ := va_join hP hD isC isR hC hR hn hdis hk1 hFc hP1 hD1
  exact kk H1 locs1 (hP2.sub perm (k_fm hp)) (hD2.sub perm hnp hp) hS1
theorem KC.calli {y : MethodName} {wsY Ts : List Cond} {d n index maxL nL : Nat} {own C : String} {bytes : ByteArray} {ret : Option FieldType} {b : Nat} {As : List Value} {ws wc w1 wr wt : va_W} {x : Int32} {ci : Nat} {fs : List Value} {qc : vw_C}
    (hM : KC l y wsY d (.ref b :: As) D cI wc w1 (some (.int x))) (cw : CallW R s args own C index y bytes maxL ret wsY (rmD d) 0 0 n) (F : CallFix p m c cc nL s args Ts own)
    (hK : va_K D vwCl [(cI, .int)] s) (hP : va_P D vwCl ws H) (hD : va_D A ws) (hS : va_S A s.heap H locs) (hA : ∀ q, s.heap.size ≤ q → A q)
    (hrc : wc[0]? = some (b, .inr (ci, fs))) (hcl : vwCl[ci]? = some qc) (hqC : qc.1 = C)
    (isC isR perm : List Nat) (hnC : va_nd isC = true) (hC : isC.map (fun i => ws[i]?) = wc.map some) (hR : isR.map (fun i => ws[i]?) = wr.map some) (hn : va_nd isR = true) (hdis : ∀ i ∈ isR, i ∉ isC) (hnp : va_nd perm = true) (hp : perm.map (fun i => (wr ++ w1)[i]?) = wt.map some)
    (hAs : As.length = n) (hsz : ls.size = nL) (hst : st0 = As.reverse ++ .ref b :: rest) (hW : (rest.map fun v => v.category).sum ≤ 8) (hdg : decode cc pc = .ok (.invokevirtual index, 3)) (hf : cells ≤ R.cells ∧ slots ≤ R.slots)
    (kk : ∀ (H1 : Heap) (locs1 : List Loc), va_P D vwCl wt H1 → va_D A wt → va_S A s.heap H1 locs1 → W p l e R s m args below meth c H1 locs1 cells slots Q (F0 m (pc + 3) ls (.int x :: rest))) : W p l e R s m args below meth c H locs cells slots Q (F0 m pc ls st0) :=
  KC.call hM cw F hK hP hD hS hA hrc hcl hqC isC isR perm hnC hC hR hn hdis hnp hp hAs hsz hst hW hdg hf kk
theorem KC.callv {y : MethodName} {wsY Ts : List Cond} {d n index maxL nL : Nat} {own C : String} {bytes : ByteArray} {ret : Option FieldType} {b : Nat} {As : List Value} {ws wc w1 wr wt : va_W} {ci : Nat} {fs : List Value} {qc : vw_C}
    (hM : KC l y wsY d (.ref b :: As) D cI wc w1 none) (cw : CallW R s args own C index y bytes maxL ret wsY (rmD d) 0 0 n) (F : CallFix p m c cc nL s args Ts own)
    (hK : va_K D vwCl [(cI, .int)] s) (hP : va_P D vwCl ws H) (hD : va_D A ws) (hS : va_S A s.heap H locs) (hA : ∀ q, s.heap.size ≤ q → A q)
    (hrc : wc[0]? = some (b, .inr (ci, fs))) (hcl : vwCl[ci]? = some qc) (hqC : qc.1 = C)
    (isC isR perm : List Nat) (hnC : va_nd isC = true) (hC : isC.map (fun i => ws[i]?) = wc.map some) (hR : isR.map (fun i => ws[i]?) = wr.map some) (hn : va_nd isR = true) (hdis : ∀ i ∈ isR, i ∉ isC) (hnp : va_nd perm = true) (hp : perm.map (fun i => (wr ++ w1)[i]?) = wt.map some)
    (hAs : As.length = n) (hsz : ls.size = nL) (hst : st0 = As.reverse ++ .ref b :: rest) (hW : (rest.map fun v => v.category).sum ≤ 8) (hdg : decode cc pc = .ok (.invokevirtual index, 3)) (hf : cells ≤ R.cells ∧ slots ≤ R.slots)
    (kk : ∀ (H1 : Heap) (locs1 : List Loc), va_P D vwCl wt H1 → va_D A wt → va_S A s.heap H1 locs1 → W p l e R s m args below meth c H1 locs1 cells slots Q (F0 m (pc + 3) ls rest)) : W p l e R s m args below meth c H locs cells slots Q (F0 m pc ls st0) :=
  KC.call hM cw F hK hP hD hS hA hrc hcl hqC isC isR perm hnC hC hR hn hdis hnp hp hAs hsz hst hW hdg hf kk
/-- a static method without a world -/
theorem KC.callS {y : MethodName} {wsY Ts : List Cond} {d n index maxL nL : Nat} {own : String} {bytes : ByteArray} {ret : Option FieldType} {As : List Value} {ws : va_W} {v : Int32}
    (hM : KC l y wsY d As D cI [] [] (some (.int v))) (cw : CallB R s args own index y bytes maxL ret wsY (rmD d) 0 0 n ∧ (Cond.static y).before args s = true) (F : CallFix p m c cc nL s args Ts own)
    (hK : va_K D vwCl [(cI, .int)] s) (hP : va_P D vwCl ws H) (hD : va_D A ws) (hS : va_S A s.heap H locs) (hA : ∀ q, s.heap.size ≤ q → A q)
    (hAs : As.length = n) (hsz : ls.size = nL) (hst : st0 = As.reverse ++ rest) (hW : (rest.map fun v => v.category).sum ≤ 8) (hdg : decode cc pc = .ok (.invokestatic index, 3)) (hf : cells ≤ R.cells ∧ slots ≤ R.slots)
    (kk : ∀ (H1 : Heap) (locs1 : List Loc), va_P D vwCl ws H1 → va_D A ws → va_S A s.heap H1 locs1 → W p l e R s m args below meth c H1 locs1 cells slots Q (F0 m (pc + 3) ls (.int v :: rest))) : W p l e R s m args below meth c H locs cells slots Q (F0 m pc ls st0) := by
  have hP0 : va_P D vwCl [] H := fun k q h => by simp at h
  have hD0 : va_D A [] := ⟨fun i j p q h => by simp at h, fun k q h => by simp at h⟩
  have hFc : ∀ q, va_A [] H.size q → A q := va_free hD hS hA [] rfl
  have run := va_runS (e := e) (below := below) (meth := meth) (locs := locs) (g := F0 m pc ls st0) (rest := rest) F (hM H.size) cw ⟨kp_blind, fun U hU hW => ⟨rfl, by rw [hU], by rw [hU]; exact hP0, va_K.moved hW.alike hK, hD0.weaken (fun _ _ _ _ => trivial)⟩⟩ rfl hAs hsz hst (lv_room hW) hdg hf
  refine k_after (mc := 0) (ms := 0) run hS hFc (fun H1 locs1 hP1 hD1 hk1 hS1 => ?_)
  refine kk H1 locs1 (hP.kept (fun k q hq => hk1 q.1 (hP k q hq).lt (fun z => ?_))) hD hS1
  rcases z with ⟨k2, e2, h2⟩ | h2
  · simp at h2
  · have := (hP k q hq).lt
    omega
/-- a table switch, at a value that it has -/
theorem k_tin {dflt lo hi : Int} {offs : Array Int} {len : Nat} {x : Int32} {off : Int} {tgt : Nat} (hx : p.tables.exec = Jvm.exec) (hb : c.code = cc) (k : Int32) (q : x = k) (hdg : decode cc pc = .ok (.tableswitch dflt lo hi offs, len)) (h1 : ¬ k.toInt < lo) (h2 : ¬ hi < k.toInt) (ho : offs[(k.toInt - lo).toNat]? = some off) (ht : (pc : Int) + off = (tgt : Int))
    (kk : W p l e R s m args below meth c H locs cells slots Q (F0 m tgt ls rest)) : W p l e R s m args below meth c H locs cells slots Q (F0 m pc ls (.int x :: rest)) := by
  subst q
  exact lv_tableIn hx hb hdg h1 h2 ho ht kk
/-- a table switch, at a value that leads where the others lead -/
theorem k_tdf {dflt lo hi : Int} {offs : Array Int} {len : Nat} {x : Int32} {tgt : Nat} (hx : p.tables.exec = Jvm.exec) (hb : c.code = cc) (hdg : decode cc pc = .ok (.tableswitch dflt lo hi offs, len)) (h : ¬ (x.toInt < lo ∨ hi < x.toInt) → offs[(x.toInt - lo).toNat]? = some dflt) (ht : (pc : Int) + dflt = (tgt : Int))
    (kk : W p l e R s m args below meth c H locs cells slots Q (F0 m tgt ls rest)) : W p l e R s m args below meth c H locs cells slots Q (F0 m pc ls (.int x :: rest)) := by
  by_cases q : x.toInt < lo ∨ hi < x.toInt
  · exact lv_tableOut hx hb hdg q ht kk
  · exact lv_tableIn hx hb hdg (fun z => q (Or.inl z)) (fun z => q (Or.inr z)) (h q) ht kk
end KK
theorem xin {x : Int32} {n : Nat} (M : Int32) (hM : M.toInt = n) (h0 : ¬ x < 0) (h : ¬ M ≤ x) : vp_in x n := by
  rw [vp_in_iff]
  rw [Int32.lt_iff_toInt_lt, Int32.toInt_zero] at h0
  rw [Int32.le_iff_toInt_le, hM] at h
  omega
theorem xin_rom {x : Int32} (h : ¬ (2048 : Int32) ≤ x &&& (65535 : Int32)) : vp_in (x &&& (65535 : Int32)) 2048 := by
  obtain ⟨j, hj, e⟩ := pk_andE x (m := 65535) 16 (by decide)
  refine xin 2048 (by decide) ?_ h
  rw [e]
  exact nI_pos (by omega)
theorem xin_6 (x : Int32) : vp_in (x &&& (6 : Int32)) 8 := by
  have e : x &&& (6 : Int32) = (x &&& 6) &&& 7 := by rw [Int32.and_assoc]; rfl
  rw [e]
  exact pk_andIn _ 3 (by decide) (by decide)
theorem xin_67 (x : Int32) : vp_in ((x &&& (6 : Int32)) + (1 : Int32)) 8 := by
  obtain ⟨j, hj, e⟩ := pk_andE x (m := 7) 3 (by decide)
  have e2 : x &&& (6 : Int32) = (x &&& 7) &&& 6 := by rw [Int32.and_assoc]; rfl
  rw [e2, e]
  have : ∀ j : Fin 8, vp_in ((nI j.val &&& (6 : Int32)) + (1 : Int32)) 8 := by unfold vp_in; decide
  exact this ⟨j, hj⟩
/-! the states: scalars f by their numbers, arrays a by theirs.
f: 0 sp, 1 pc, 2 enabled, 3 enabling (soon), 4 halted, 5 shifter, 6 offset, 7 unfed (hunger), 8 gone (states), 9 ended (frames), 10 waiting (request); of the class: 11 flags; of the reference: 11 code, 12 sign, 13 zero, 14 half, 15 parity, 16 carry, 17 due.
a: 0 rom, 1 ram, 2 registers, 3 inputs, 4 latches, 5 rises. -/
def ua (a : Nat → Nat → Int32) (k : Nat) (x : Nat → Int32) : Nat → Nat → Int32 := fun j => if j = k then x else a j
def wM (cI : ClassId) (o : Nat → Nat) (a : Nat → Nat → Int32) : va_W := [(o 2, .inr (1, [.ref (o 3), .ref (o 4)])), (o 3, .inl (cI, 2048, .inl (a 0))), (o 4, .inl (cI, 8192, .inl (a 1)))]
def wT (cI : ClassId) (o : Nat → Nat) (f : Nat → Int32) (a : Nat → Nat → Int32) : va_W := [(o 5, .inr (2, [.ref (o 6), .ref (o 7), .ref (o 8), .int (f 5), .int (f 6), .int (f 7)])), (o 6, .inl (cI, 3, .inl (a 3))), (o 7, .inl (cI, 2, .inl (a 4))), (o 8, .inl (cI, 16, .inl (a 5)))]
def wP (cI : ClassId) (o : Nat → Nat) (f : Nat → Int32) (a : Nat → Nat → Int32) : va_W := [(o 0, .inr (3, [.ref (o 2), .ref (o 5), .ref (o 1), .int (f 11), .int (f 0), .int (f 1), .int (f 2), .int (f 3), .int (f 4)])), (o 1, .inl (cI, 8, .inl (a 2))), (o 2, .inr (1, [.ref (o 3), .ref (o 4)])), (o 3, .inl (cI, 2048, .inl (a 0))), (o 4, .inl (cI, 8192, .inl (a 1))), (o 5, .inr (2, [.ref (o 6), .ref (o 7), .ref (o 8), .int (f 5), .int (f 6), .int (f 7)])), (o 6, .inl (cI, 3, .inl (a 3))), (o 7, .inl (cI, 2, .inl (a 4))), (o 8, .inl (cI, 16, .inl (a 5)))]
def wF (o : Nat → Nat) (g : Nat → Int32) : va_W := [(o 9, .inr (0, [.int (g 8), .int (g 9), .int (g 10)]))]
def wX (cI : ClassId) (o : Nat → Nat) (g f : Nat → Int32) (a : Nat → Nat → Int32) : va_W := [(o 10, .inr (4, [.ref (o 2), .ref (o 5), .ref (o 0), .ref (o 9)])), (o 9, .inr (0, [.int (g 8), .int (g 9), .int (g 10)])), (o 0, .inr (3, [.ref (o 2), .ref (o 5), .ref (o 1), .int (f 11), .int (f 0), .int (f 1), .int (f 2), .int (f 3), .int (f 4)])), (o 1, .inl (cI, 8, .inl (a 2))), (o 2, .inr (1, [.ref (o 3), .ref (o 4)])), (o 3, .inl (cI, 2048, .inl (a 0))), (o 4, .inl (cI, 8192, .inl (a 1))), (o 5, .inr (2, [.ref (o 6), .ref (o 7), .ref (o 8), .int (f 5), .int (f 6), .int (f 7)])), (o 6, .inl (cI, 3, .inl (a 3))), (o 7, .inl (cI, 2, .inl (a 4))), (o 8, .inl (cI, 16, .inl (a 5)))]
def wR (cI : ClassId) (o : Nat → Nat) (f : Nat → Int32) (a : Nat → Nat → Int32) : va_W := [(o 20, .inr (5, [.int (f 11), .ref (o 21), .ref (o 22), .ref (o 23), .int (f 0), .int (f 1), .int (f 12), .int (f 13), .int (f 14), .int (f 15), .int (f 16), .int (f 2), .int (f 17), .int (f 3), .int (f 4), .int (f 10), .ref (o 24), .int (f 5), .int (f 6), .ref (o 25), .ref (o 26), .int (f 7), .int (f 8), .int (f 9)])), (o 21, .inl (cI, 2048, .inl (a 0))), (o 22, .inl (cI, 8192, .inl (a 1))), (o 23, .inl (cI, 8, .inl (a 2))), (o 24, .inl (cI, 3, .inl (a 3))), (o 25, .inl (cI, 2, .inl (a 4))), (o 26, .inl (cI, 16, .inl (a 5)))]
