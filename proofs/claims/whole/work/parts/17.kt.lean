/-! contracts of methods that may throw: KT: under 'thr' it throws an E and leaves its world as it was, else it returns v with the world w1 -/
def rmX (d : Nat) : Room := { frames := d, cells := 1, slots := 6, locals := 40 * d }
def kx_ (D : va_G) (cI : ClassId) (thr : Prop) (v : Option Value) (w1 : va_W) (A : Nat → Prop) : Array Value → State → Outcome → State → Prop := fun a st oc t => ¬ thr ∧ kq_ D cI v w1 A a st oc t
def kz_ (D : va_G) (cI : ClassId) (thr : Prop) (E : String) (wc : va_W) (A : Nat → Prop) : String → State → State → Prop := vx_X (fun _ : Unit => thr) (fun E' _ t => E' = E ∧ kb_ D cI wc A t) A
def KT (l : Launch) (y : MethodName) (ws : List Cond) (d : Nat) (tS : Nat) (sc : Nat → Nat) (av : List Value) (D : va_G) (cI : ClassId) (wc : va_W) (thr : Prop) (E : String) (w1 : va_W) (v : Option Value) : Prop :=
  ∀ sz : Nat, vx_Met l y ws (rmX d) (va_Pc av (kg_ D cI tS sc wc sz)) (kx_ D cI thr v w1 (va_A wc sz)) (kz_ D cI thr E wc (va_A wc sz)) 1 6 (va_A wc sz)
section KTS
variable {p : Program} {l : Launch} {e : Env} {R : Room} {s : State} {m : MethodId} {args : Array Value} {below : List Frame} {meth : Method} {c : Code} {H : Heap} {locs : List Loc} {cells slots : Nat} {Q : State → Prop}
variable {D : va_G} {cI : ClassId} {A : Nat → Prop} {cc : ByteArray} {pc : Nat} {ls : Array Slot} {rest st0 : List Value} {tS : Nat} {sc : Nat → Nat}
theorem KT.of {y : MethodName} {ws ws' : List Cond} {d : Nat} {av : List Value} {wc w1 : va_W} {v : Option Value} {thr : Prop} {E : String} {maxL : Nat} {ret : Option FieldType} (hy : plainName y.cls = true) (hw : ws = Cond.code y cc maxL ret :: ws') (hlen : (lg_sl av).length ≤ maxL)
    (body : ∀ (p : Program) (e : Env) (s : State) (m : MethodId) (below : List Frame) (meth : Method) (c : Code) (A : Nat → Prop), p.tables.exec = Jvm.exec → c.code = cc → meth.sig.returnType = ret → (∀ w ∈ ws, w.before av.toArray s = true) → s.vm.findClass y.cls = some m.cls → meth.locks = false → c.maxLocals = maxL → (∀ x ∈ c.exceptionTable.toList, False) →
      va_K D vwCl [(cI, .int)] s → va_P D vwCl wc s.heap → va_D A wc → va_S A s.heap s.heap [] → (∀ q : Nat, s.heap.size ≤ q → A q) → sG tS sc A s s.heap → ∀ ls : Array Slot, lv_has ls maxL (lv_args 0 av) →
      W p l e (rmX d) s m av.toArray below meth c s.heap [] 0 0 (vx_MQ below (kx_ D cI thr v w1 A) (kz_ D cI thr E wc A) av.toArray s 1 6 A) (F0 m 0 ls [])) : KT l y ws d tS sc av D cI wc thr E w1 v := by
  intro sz
  refine vx_ofW (cc := cc) (maxL := maxL) (ret := ret) hy hw ?_
  intro p e s m args below meth c s₁ B hml hne hv
  obtain ⟨rfl, ⟨hsz, hP, hK, hD0⟩, hG⟩ := hv
  subst hsz
  have hts := atoms_spec (ws := ws) B.pre
  have hown : s.vm.findClass y.cls = some m.cls := findClass_of_methodNamed B.named
  have hl := lv_entry av (n := maxL) hlen
  rw [lg_entry_eq]
  exact body p e s m below meth c _ B.exec B.bytes B.returns hts hown B.notSynchronized hml hne hK hP hD0.self va_S.rf (fun q h => Or.inr h) hG _ hl
theorem KT.reti {w1 : va_W} {v : Option Value} {x : Int32} {thr : Prop} {XC : String → State → State → Prop} (hx : p.tables.exec = Jvm.exec) (hb : c.code = cc) (hr : meth.sig.returnType = some .int) (hlocks : meth.locks = false) (hK : va_K D vwCl [(cI, .int)] s) (hP : va_P D vwCl w1 H) (hD : va_D A w1) (hS : va_S A s.heap H locs)
    (hdg : decode cc pc = .ok (.ireturn, 1)) (hn : ¬ thr) (hv : v = some (.int x)) : W p l e R s m args below meth c H locs 0 0 (vx_MQ below (kx_ D cI thr v w1 A) XC args s 1 6 A) (F0 m pc ls [.int x]) := by
  subst hv
  exact vx_ret (W.widen (k := 1) (n := 6) (Nat.zero_le _) (Nat.zero_le _) (W.iret hx hb hr (fun t ht hW => ⟨hn, rfl, ⟨by rw [ht]; exact hP, va_K.moved hW.alike hK, hD⟩, hS.F ht⟩) hS.2.2 hdg hlocks))
theorem KT.retv {w1 : va_W} {thr : Prop} {XC : String → State → State → Prop} (hx : p.tables.exec = Jvm.exec) (hb : c.code = cc) (hr : meth.sig.returnType = none) (hlocks : meth.locks = false) (hK : va_K D vwCl [(cI, .int)] s) (hP : va_P D vwCl w1 H) (hD : va_D A w1) (hS : va_S A s.heap H locs)
    (hdg : decode cc pc = .ok (.return_, 1)) (hn : ¬ thr) : W p l e R s m args below meth c H locs 0 0 (vx_MQ below (kx_ D cI thr none w1 A) XC args s 1 6 A) (F0 m pc ls []) :=
  vx_ret (W.widen (k := 1) (n := 6) (Nat.zero_le _) (Nat.zero_le _) (W.vret hx hb hr (fun t ht hW => ⟨hn, rfl, ⟨by rw [ht]; exact hP, va_K.moved hW.alike hK, hD⟩, hS.F ht⟩) hS.2.2 hdg hlocks))
/-- 'throw new E("text")' with the world as it was -/
theorem KT.throw {Qc : Array Value → State → Outcome → State → Prop} {wc : va_W} {thr : Prop} {cls text : String} {ik is ic sa d : Nat} (hx : p.tables.exec = Jvm.exec) (hb : c.code = cc) (hl0 : l.stackTraces = false) (hown : s.vm.findClass RX4 = some m.cls) (hcls : Bundle.fit cls = true)
    (hk : (Cond.classLink RX4 ik cls).before args s = true) (hini : (Cond.initialized cls).before args s = true) (hstr : vk_R RX4 is text sa s) (hat : ∀ w ∈ vx_atS RX4 ic cls ["java/lang/RuntimeException", "java/lang/Exception"], w.before args s = true)
    (hgood : ∀ w ∈ Cond.classLink RX4 ik cls :: Cond.initialized cls :: vx_atS RX4 ic cls ["java/lang/RuntimeException", "java/lang/Exception"], vx_ot w = true) (hG : sG tS sc A s s.heap)
    (hK : va_K D vwCl [(cI, .int)] s) (hP : va_P D vwCl wc H) (hD : va_D A wc) (hS : va_S A s.heap H locs) (hsize : ls.size = c.maxLocals) (hne : ∀ x ∈ c.exceptionTable.toList, False) (hlocks : meth.locks = false) (hd : 6 ≤ d) (ht : thr)
    (d0 : decode cc pc = .ok (.new ik, 3)) (d3 : decode cc (pc + 3) = .ok (.dup, 1)) (d4 : decode cc (pc + 4) = .ok (.ldc is, 2)) (d6 : decode cc (pc + 6) = .ok (.invokespecial ic, 3)) (d9 : decode cc (pc + 9) = .ok (.athrow, 1)) :
    W p l e (rmX d) s m args below meth c H locs 0 0 (vx_MQ below Qc (kz_ D cI thr cls wc A) args s 1 6 A) (F0 m pc ls []) := by
  refine vx_throwS (names := ["java/lang/RuntimeException", "java/lang/Exception"]) hx hb hl0 hown hcls (by decide +kernel) hk hini hstr hat hgood hG.2.1.1 hG.2.1.2 hS hsize d0 d3 d4 d6 d9 (fun x h => (hne x h).elim) ?_ ?_ (Nat.le_refl 1) (Nat.le_refl 6) hlocks ?_ hS.2.2 (Nat.le_refl 1) (Nat.le_refl 6)
  · show 2 + 3 < d
    omega
  · show 0 + (13 * (2 + 1) + 43) ≤ 40 * d
    omega
  · intro t hal hsz heq
    exact ⟨(), ht, ⟨rfl, hP.kept (fun k q hq => heq q.1 (hP k q hq).lt), va_K.moved hal hK, hD⟩, Nat.le_trans hS.1 hsz, fun q h1 h2 => by rw [heq q (Nat.lt_of_lt_of_le h1 hS.1)]; exact hS.2.1 q h1 h2⟩
end KTS
def xIAE : String := "java/lang/IllegalArgumentException"
def xIOB : String := "java/lang/IndexOutOfBoundsException"
theorem hat_iae {args : Array Value} {s : State} {tS : Nat} {sc : Nat → Nat} {A : Nat → Prop} {H : Heap} (h1 : ∀ w ∈ (vx_atS RX4 43 "java/lang/IllegalArgumentException" ["java/lang/RuntimeException", "java/lang/Exception"]).filter goodWord, w.before args s = true) (hG : sG tS sc A s H) : ∀ w ∈ vx_atS RX4 43 "java/lang/IllegalArgumentException" ["java/lang/RuntimeException", "java/lang/Exception"], w.before args s = true :=
  vx_hat (B := [Cond.castable "java/lang/IllegalArgumentException" "java/lang/IllegalArgumentException", Cond.declares (Bundle.initS "java/lang/RuntimeException"), Cond.declares (Bundle.initS "java/lang/Exception"), Cond.declares (Bundle.initS Bundle.tN)]) h1 (by decide +kernel) (vx_c (va_Nw.use rfl hG.2.2.2.2.1) (vx_c (va_Nw.use rfl hG.2.2.2.2.2.2.1) (vx_c (va_Nw.use rfl hG.2.2.2.2.2.2.2.1) (vx_c (va_Nw.use rfl hG.2.2.2.2.2.2.2.2) vx_n))))
theorem hat_iob {args : Array Value} {s : State} {tS : Nat} {sc : Nat → Nat} {A : Nat → Prop} {H : Heap} (h1 : ∀ w ∈ (vx_atS RX4 85 "java/lang/IndexOutOfBoundsException" ["java/lang/RuntimeException", "java/lang/Exception"]).filter goodWord, w.before args s = true) (hG : sG tS sc A s H) : ∀ w ∈ vx_atS RX4 85 "java/lang/IndexOutOfBoundsException" ["java/lang/RuntimeException", "java/lang/Exception"], w.before args s = true :=
  vx_hat (B := [Cond.castable "java/lang/IndexOutOfBoundsException" "java/lang/IndexOutOfBoundsException", Cond.declares (Bundle.initS "java/lang/RuntimeException"), Cond.declares (Bundle.initS "java/lang/Exception"), Cond.declares (Bundle.initS Bundle.tN)]) h1 (by decide +kernel) (vx_c (va_Nw.use rfl hG.2.2.2.2.2.1) (vx_c (va_Nw.use rfl hG.2.2.2.2.2.2.1) (vx_c (va_Nw.use rfl hG.2.2.2.2.2.2.2.1) (vx_c (va_Nw.use rfl hG.2.2.2.2.2.2.2.2) vx_n))))
theorem good_iae : ∀ w ∈ Cond.classLink RX4 39 "java/lang/IllegalArgumentException" :: Cond.initialized "java/lang/IllegalArgumentException" :: vx_atS RX4 43 "java/lang/IllegalArgumentException" ["java/lang/RuntimeException", "java/lang/Exception"], vx_ot w = true := by decide +kernel
theorem good_iob : ∀ w ∈ Cond.classLink RX4 81 "java/lang/IndexOutOfBoundsException" :: Cond.initialized "java/lang/IndexOutOfBoundsException" :: vx_atS RX4 85 "java/lang/IndexOutOfBoundsException" ["java/lang/RuntimeException", "java/lang/Exception"], vx_ot w = true := by decide +kernel
