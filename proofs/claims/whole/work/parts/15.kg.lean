/-! what the class reads of the machine beside its own cells: the table of states, the statics of Throwable, names of a nest, texts -/
def xStL : List Int32 := [4, 10, 7, 5, 5, 5, 7, 4, 4, 10, 7, 5, 5, 5, 7, 4, 4, 10, 7, 5, 5, 5, 7, 4, 4, 10, 7, 5, 5, 5, 7, 4, 4, 10, 16, 5, 5, 5, 7, 4, 4, 10, 16, 5, 5, 5, 7, 4, 4, 10, 13, 5, 10, 10, 10, 4, 4, 10, 13, 5, 5, 5, 7, 4, 5, 5, 5, 5, 5, 5, 7, 5, 5, 5, 5, 5, 5, 5, 7, 5, 5, 5, 5, 5, 5, 5, 7, 5, 5, 5, 5, 5, 5, 5, 7, 5, 5, 5, 5, 5, 5, 5, 7, 5, 5, 5, 5, 5, 5, 5, 7, 5, 7, 7, 7, 7, 7, 7, 7, 7, 5, 5, 5, 5, 5, 5, 7, 5, 4, 4, 4, 4, 4, 4, 7, 4, 4, 4, 4, 4, 4, 4, 7, 4, 4, 4, 4, 4, 4, 4, 7, 4, 4, 4, 4, 4, 4, 4, 7, 4, 4, 4, 4, 4, 4, 4, 7, 4, 4, 4, 4, 4, 4, 4, 7, 4, 4, 4, 4, 4, 4, 4, 7, 4, 4, 4, 4, 4, 4, 4, 7, 4, 5, 10, 10, 10, 11, 11, 7, 11, 5, 10, 10, 10, 11, 17, 7, 11, 5, 10, 10, 10, 11, 11, 7, 11, 5, 10, 10, 10, 11, 17, 7, 11, 5, 10, 10, 18, 11, 11, 7, 11, 5, 5, 10, 4, 11, 17, 7, 11, 5, 10, 10, 4, 11, 11, 7, 11, 5, 5, 10, 4, 11, 17, 7, 11]
def xSt (j : Nat) : Int32 := xStL.getD j 0
def sT_ (tS : Nat) (A : Nat → Prop) (U : State) (H : Heap) : Prop := va_Z "InvaderBoard$Processor" "STATES" "[I" (.ref tS) A U H ∧ va_T .int tS 256 (fun j => .int (xSt j)) A U H
def sU_ (A : Nat → Prop) (U : State) (H : Heap) : Prop := vx_Zq Bundle.tN "UNASSIGNED_STACK" Bundle.steD A U H ∧ vx_Zq Bundle.tN "SUPPRESSED_SENTINEL" Bundle.listD A U H
def sN_ (U : State) : Prop := va_Nw (.fieldLinkNest "InvaderBoard" 97 "InvaderBoard$Frames" "gone" "I" "InvaderBoard") U ∧ va_Nw (.fieldLinkNest "InvaderBoard" 101 "InvaderBoard$Frames" "ended" "I" "InvaderBoard") U ∧ va_Nw (.fieldLinkNest "InvaderBoard" 104 "InvaderBoard$Frames" "waiting" "I" "InvaderBoard") U ∧ va_Nw (.fieldLinkNest "InvaderBoard" 107 "InvaderBoard$Ports" "framesUnfed" "I" "InvaderBoard") U ∧ va_Nw (.fieldLinkNest "InvaderBoard" 121 "InvaderBoard$Processor" "enabled" "Z" "InvaderBoard") U ∧ va_Nw (.fieldLinkNest "InvaderBoard" 131 "InvaderBoard$Processor" "halted" "Z" "InvaderBoard") U
def sR_ (sc : Nat → Nat) (U : State) : Prop := vk_R RX4 41 "a word has 1 to 4 bytes to load" (sc 0) U ∧ vk_R RX4 46 "the bytes are not all inside the ROM" (sc 1) U ∧ vk_R RX4 58 "no such input port" (sc 2) U ∧ vk_R RX4 68 "a run has 1 to 40000 states" (sc 3) U ∧ vk_R RX4 70 "no such register" (sc 4) U ∧ vk_R RX4 83 "no such dot" (sc 5) U ∧ vk_R RX4 114 "no such part of the state" (sc 6) U ∧ vk_R RX4 116 "no such sound" (sc 7) U
def sC_ (U : State) : Prop := va_Nw (.castable "java/lang/IllegalArgumentException" "java/lang/IllegalArgumentException") U ∧ va_Nw (.castable "java/lang/IndexOutOfBoundsException" "java/lang/IndexOutOfBoundsException") U ∧ va_Nw (.declares (Bundle.initS "java/lang/RuntimeException")) U ∧ va_Nw (.declares (Bundle.initS "java/lang/Exception")) U ∧ va_Nw (.declares (Bundle.initS Bundle.tN)) U
def sG (tS : Nat) (sc : Nat → Nat) (A : Nat → Prop) (U : State) (H : Heap) : Prop := sT_ tS A U H ∧ sU_ A U H ∧ sN_ U ∧ sR_ sc U ∧ sC_ U
theorem sG.at {tS : Nat} {sc : Nat → Nat} {A B : Nat → Prop} {s U : State} {H : Heap} {locs : List Loc} (h : sG tS sc A s s.heap) (hS : va_S A s.heap H locs) (hAB : ∀ q, B q → A q) (hU : U.heap = H) (hW : s.WarmedH U.vm) : sG tS sc B U U.heap := by
  obtain ⟨⟨a1, a2⟩, ⟨b1, b2⟩, ⟨n1, n2, n3, n4, n5, n6⟩, ⟨r1, r2, r3, r4, r5, r6, r7, r8⟩, c1, c2, c3, c4, c5⟩ := h
  rw [hU]
  exact ⟨⟨(va_Z.moved hW.alike (a1.kept hS.2.1)).narrow hAB, (va_T.moved hW.alike (a2.kept hS.2.1)).narrow hAB⟩, ⟨(vx_Zq.moved hW.alike (b1.kept hS.2.1)).narrow hAB, (vx_Zq.moved hW.alike (b2.kept hS.2.1)).narrow hAB⟩,
    ⟨n1.warmF hW, n2.warmF hW, n3.warmF hW, n4.warmF hW, n5.warmF hW, n6.warmF hW⟩, ⟨r1.warm hW, r2.warm hW, r3.warm hW, r4.warm hW, r5.warm hW, r6.warm hW, r7.warm hW, r8.warm hW⟩, c1.warmC hW, c2.warmC hW, c3.warmD hW, c4.warmD hW, c5.warmD hW⟩
theorem sG.same {tS : Nat} {sc : Nat → Nat} {A : Nat → Prop} {u U : State} {H : Heap} (hv : U.vm = u.vm) (h : sG tS sc A u H) : sG tS sc A U H := by
  obtain ⟨⟨a1, a2⟩, ⟨b1, b2⟩, ⟨n1, n2, n3, n4, n5, n6⟩, ⟨r1, r2, r3, r4, r5, r6, r7, r8⟩, c1, c2, c3, c4, c5⟩ := h
  have hal : u.vm.Alike U.vm := by rw [hv]; exact Vm.Alike.refl u.vm
  exact ⟨⟨va_Z.moved hal a1, va_T.moved hal a2⟩, ⟨vx_Zq.moved hal b1, vx_Zq.moved hal b2⟩,
    ⟨n1.same rfl hv.symm, n2.same rfl hv.symm, n3.same rfl hv.symm, n4.same rfl hv.symm, n5.same rfl hv.symm, n6.same rfl hv.symm⟩, ⟨r1.same hv, r2.same hv, r3.same hv, r4.same hv, r5.same hv, r6.same hv, r7.same hv, r8.same hv⟩, c1.same rfl hv.symm, c2.same rfl hv.symm, c3.same rfl hv.symm, c4.same rfl hv.symm, c5.same rfl hv.symm⟩
/-- a contract of a method that reads them -/
def kg_ (D : va_G) (cI : ClassId) (tS : Nat) (sc : Nat → Nat) (ws : va_W) (sz : Nat) : State → Prop := fun U => kp_ D cI ws sz U ∧ sG tS sc (va_A ws sz) U U.heap
def KG (l : Launch) (y : MethodName) (ws : List Cond) (d : Nat) (tS : Nat) (sc : Nat → Nat) (av : List Value) (D : va_G) (cI : ClassId) (wc w1 : va_W) (v : Option Value) : Prop :=
  ∀ sz : Nat, Met l y ws (rmD d) (va_Pc av (kg_ D cI tS sc wc sz)) (kq_ D cI v w1 (va_A wc sz)) 0 0 (va_A wc sz)
theorem kg_blind {D : va_G} {cI : ClassId} {tS : Nat} {sc : Nat → Nat} {ws : va_W} {sz : Nat} {av : List Value} : FrameBlind (va_Pc av (kg_ D cI tS sc ws sz)) :=
  fun a U g mk q => by
    obtain ⟨q0, ⟨q1, qP, qK, qD⟩, qG⟩ := q
    exact ⟨q0, ⟨q1, qP, va_K.moved (u := U) (U := U.calling g mk a) (Vm.Alike.refl U.vm) qK, qD⟩, sG.same (u := U) (U := U.calling g mk a) rfl qG⟩
section KGS
variable {p : Program} {l : Launch} {e : Env} {R : Room} {s : State} {m : MethodId} {args : Array Value} {below : List Frame} {meth : Method} {c : Code} {H : Heap} {locs : List Loc} {cells slots : Nat} {Q : State → Prop}
variable {D : va_G} {cI : ClassId} {A : Nat → Prop} {cc : ByteArray} {pc : Nat} {ls : Array Slot} {rest st0 : List Value} {tS : Nat} {sc : Nat → Nat}
theorem KG.of {y : MethodName} {ws ws' : List Cond} {d : Nat} {av : List Value} {wc w1 : va_W} {v : Option Value} {maxL : Nat} {ret : Option FieldType} (hy : plainName y.cls = true) (hw : ws = Cond.code y cc maxL ret :: ws') (hlen : (lg_sl av).length ≤ maxL)
    (body : ∀ (p : Program) (e : Env) (s : State) (m : MethodId) (below : List Frame) (meth : Method) (c : Code) (A : Nat → Prop), p.tables.exec = Jvm.exec → c.code = cc → meth.sig.returnType = ret → (∀ w ∈ ws, w.before av.toArray s = true) → s.vm.findClass y.cls = some m.cls → meth.locks = false → c.maxLocals = maxL →
      va_K D vwCl [(cI, .int)] s → va_P D vwCl wc s.heap → va_D A wc → va_S A s.heap s.heap [] → (∀ q : Nat, s.heap.size ≤ q → A q) → sG tS sc A s s.heap → ∀ ls : Array Slot, lv_has ls maxL (lv_args 0 av) →
      W p l e (rmD d) s m av.toArray below meth c s.heap [] 0 0 (MQ below (kq_ D cI v w1 A) av.toArray s 0 0 A) (F0 m 0 ls [])) : KG l y ws d tS sc av D cI wc w1 v := by
  intro sz
  refine Met.ofW (cc := cc) (maxL := maxL) (ret := ret) hy hw ?_
  intro p e s m args below meth c s₁ B hml hv
  obtain ⟨rfl, ⟨hsz, hP, hK, hD0⟩, hG⟩ := hv
  subst hsz
  have hts := atoms_spec (ws := ws) B.pre
  have hown : s.vm.findClass y.cls = some m.cls := findClass_of_methodNamed B.named
  have hl := lv_entry av (n := maxL) hlen
  rw [lg_entry_eq]
  exact body p e s m below meth c _ B.exec B.bytes B.returns hts hown B.notSynchronized hml hK hP hD0.self va_S.rf (fun q h => Or.inr h) hG _ hl
theorem KG.calli {y : MethodName} {wsY Ts : List Cond} {d n index maxL nL : Nat} {own C : String} {bytes : ByteArray} {ret : Option FieldType} {b : Nat} {As : List Value} {ws wc w1 wr wt : va_W} {x : Int32} {ci : Nat} {fs : List Value} {qc : vw_C}
    (hM : KG l y wsY d tS sc (.ref b :: As) D cI wc w1 (some (.int x))) (cw : CallW R s args own C index y bytes maxL ret wsY (rmD d) 0 0 n) (F : CallFix p m c cc nL s args Ts own)
    (hK : va_K D vwCl [(cI, .int)] s) (hP : va_P D vwCl ws H) (hD : va_D A ws) (hS : va_S A s.heap H locs) (hA : ∀ q, s.heap.size ≤ q → A q) (hG : sG tS sc A s s.heap)
    (hrc : wc[0]? = some (b, .inr (ci, fs))) (hcl : vwCl[ci]? = some qc) (hqC : qc.1 = C)
    (isC isR perm : List Nat) (hnC : va_nd isC = true) (hC : isC.map (fun i => ws[i]?) = wc.map some) (hR : isR.map (fun i => ws[i]?) = wr.map some) (hn : va_nd isR = true) (hdis : ∀ i ∈ isR, i ∉ isC) (hnp : va_nd perm = true) (hp : perm.map (fun i => (wr ++ w1)[i]?) = wt.map some)
    (hAs : As.length = n) (hsz : ls.size = nL) (hst : st0 = As.reverse ++ .ref b :: rest) (hW : (rest.map fun v => v.category).sum ≤ 8) (hdg : decode cc pc = .ok (.invokevirtual index, 3)) (hf : cells ≤ R.cells ∧ slots ≤ R.slots)
    (kk : ∀ (H1 : Heap) (locs1 : List Loc), va_P D vwCl wt H1 → va_D A wt → va_S A s.heap H1 locs1 → W p l e R s m args below meth c H1 locs1 cells slots Q (F0 m (pc + 3) ls (.int x :: rest))) : W p l e R s m args below meth c H locs cells slots Q (F0 m pc ls st0) := by
  subst hqC
  have hPc := hP.sub isC (k_fm hC)
  have hDc := hD.sub isC hnC hC
  have hFc := va_free hD hS hA isC hC
  have run := va_runV (e := e) (below := below) (meth := meth) (locs := locs) (g := F0 m pc ls st0) (rest := rest) F (hM H.size) cw ⟨kg_blind, va_recv hK hPc hcl hrc, fun U hU hW => ⟨rfl, ⟨by rw [hU], by rw [hU]; exact hPc, va_K.moved hW.alike hK, hDc.weaken (fun _ _ _ _ => trivial)⟩, hG.at hS hFc hU hW⟩⟩ rfl hAs hsz hst (lv_room hW) hdg hf
  refine k_after (mc := 0) (ms := 0) run hS hFc (fun H1 locs1 hP1 hD1 hk1 hS1 => ?_)
  obtain ⟨hP2, hD2⟩ := va_join hP hD isC isR hC hR hn hdis hk1 hFc hP1 hD1
  exact kk H1 locs1 (hP2.sub perm (k_fm hp)) (hD2.sub perm hnp hp) hS1
end KGS
