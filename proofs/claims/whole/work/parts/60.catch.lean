/-! CAUGHT by the one row of a method's table, by name: own proof, for a table of a single row (the library's own laws of this lie in its rest, which rounds don't use) -/
section VC
variable {p : Program} {l : Launch} {e : Env} {R : Room} {s : State} {m : MethodId} {args : Array Value} {below : List Frame} {meth : Method} {c : Code} {H : Heap} {locs : List Loc} {cells slots : Nat} {Q : State → Prop}
variable {pc : Nat} {ls : Array Slot} {rest : List Value}
/-- the search of a table that is one row, in the state S: found, the catch type's link noted -/
theorem vc_found {e : Env} {S : State} {g : JFrame} {q : Addr} {meth : Method} {c : Code} {x : ExceptionTableEntry} {k : ClassId} {ce : Cell} (hm : S.vm.method? g.method = some meth) (hc : meth.code = some c) (htab : c.exceptionTable.toList = [x]) (hx : covers x g.pc = true) (h0 : x.catchType ≠ 0)
    (hL : S.vm.ClassLinks e.platform g.method.cls x.catchType k) (hq : S.heap[q]? = some ce) (hv : ce.vm = .none) (hce : ∃ z, S.vm.classes[ce.cls]? = some z) (hk : ∃ z, S.vm.classes[k]? = some z) (hfit : S.vm.assignable ce.cls k = true)
    (P : Handler → Pre) (E : CtlPost) (d : Bool) (acts : List Action) : wp (findHandler g q) P E e d acts S ↔ P (.found x.handlerPc) d acts (S.setVm (S.vm.noted g.method.cls x.catchType (.cls k))) := by
  have same := (Vm.Alike.refl S.vm).noted g.method.cls x.catchType (.cls k)
  obtain ⟨op1, op2⟩ := (resolveClass_links e.toSetting hL).op (op := VmOp.resolveClass g.method.cls x.catchType) rfl
  obtain ⟨z1, hz1⟩ := hce
  obtain ⟨z2, hz2⟩ := hk
  obtain ⟨y1, hy1, -⟩ := same.2.2 _ _ hz1
  obtain ⟨y2, hy2, -⟩ := same.2.2 _ _ hz2
  have fit' := (same.assignable ce.cls k).trans hfit
  have notS : ∀ w, ce.vm ≠ .statics w := fun w h => by rw [hv] at h; cases h
  have hx' : (x.startPc ≤ g.pc && g.pc < x.endPc) = true := hx
  rw [W.findHandler_eq hm hc, htab]
  simp [findHandler.go, hx', h0, op1, op2, hq, notS, hy1, hy2, fit', VmOp.dirties, VmOp.acts]
/-- from the thrown object's note to the handler: one step of the machine -/
theorem vc_catch {own name E : String} {ce : Cell} {q : Addr} (hown : s.vm.findClass own = some m.cls) (x : ExceptionTableEntry) (htab : c.exceptionTable.toList = [x]) (hx : covers x pc = true) (h0 : x.catchType ≠ 0)
    (hlink : (Cond.classLink own x.catchType name).before args s = true) (hcast : (Cond.castable E name).before args s = true) (hcell : H[q]? = some ce) (hv : ce.vm = .none) (hcl : s.vm.findClass E = some ce.cls)
    (kk : W p l e R s m args below meth c H locs cells slots Q (F0 m x.handlerPc ls [.ref q])) : vx_W p l e R s m args below meth c H locs cells slots Q (F0 m pc ls rest) q := by
  intro T hT X
  subst hT
  obtain ⟨k1, k2, e1, e2, hfit⟩ := Cond.castable_spec hcast
  obtain ⟨k3, e3, hL⟩ := Cond.classLink_spec hown hlink e.platform (by rw [X.admits.platform])
  obtain rfl : k1 = ce.cls := Option.some.inj (e1.symm.trans hcl)
  obtain rfl : k2 = k3 := Option.some.inj (e2.symm.trans e3)
  obtain ⟨kd, _, _, kt, hd, _, _, _, _, hkt, _, hopen⟩ := hL.here
  have hW := X.warmed.noted hd hopen (State.rightAt_cls hL)
  obtain ⟨t, st, hQ⟩ := kk (T.setVm (T.vm.noted m.cls x.catchType (.cls k2))) rfl (X.noted hW)
  refine ⟨t, ?_, hQ⟩
  have al := X.warmed.alike
  obtain ⟨zc, hzc, -⟩ := Vm.findClass_spec hcl
  obtain ⟨y1, hy1, -⟩ := al.2.2 _ _ hzc
  obtain ⟨y2, hy2, -⟩ := al.2.2 _ _ hkt
  have found := vc_found (e := e) (S := (T.setTop (F0 m pc ls rest)).pushFrame (.throwing q)) (g := F0 m pc ls rest) (q := q) (meth := meth) (c := c) (x := x) (k := k2) (ce := ce) X.method' X.code htab hx h0 (X.warmed.classLinks hL) hcell hv ⟨y1, hy1⟩ ⟨y2, hy2⟩ ((al.assignable _ _).trans hfit)
  obtain ⟨go, awake⟩ := At.throwing (g := F0 m pc ls rest) X.here q
  obtain ⟨g1, hfr⟩ := X.frames_eq
  have hfr' : (T.setVm (T.vm.noted m.cls x.catchType (.cls k2))).frames = .java g1 :: below := hfr
  rw [State.setTop_of_frames _ hfr'] at st
  refine Steps.head go awake ?_
  rw [stepThread_throwing (frames_entered X.here.top _)]
  have out : ∀ r : List Frame, (stepThrowing e ((T.setTop (F0 m pc ls rest)).pushFrame (.throwing q)) q (.java (F0 m pc ls rest) :: r)).1 = (((T.setTop (F0 m pc ls rest)).pushFrame (.throwing q)).setVm (T.vm.noted m.cls x.catchType (.cls k2))).setFrames (.java { F0 m pc ls rest with pc := x.handlerPc, stack := [.ref q] } :: r) := by
    intro r
    simp only [stepThrowing, searchFrame, vmDo]
    generalize hres : Sem.go _ e false [] ((T.setTop (F0 m pc ls rest)).pushFrame (.throwing q)) = res
    obtain ⟨acts9, rfl, -⟩ := Sem.eq_ok_of hres (a := Handler.found x.handlerPc) (s' := ((T.setTop (F0 m pc ls rest)).pushFrame (.throwing q)).setVm (T.vm.noted m.cls x.catchType (.cls k2))) (acts' := []) (by simp [found]; rfl)
    rfl
  rw [out, hfr, List.tail_cons]
  have swap : ∀ (u : State) (v : Vm) (L : List Frame), (u.setFrames L).setVm v = (u.setVm v).setFrames L := fun _ _ _ => rfl
  rw [State.pushFrame, State.setTop_of_frames _ hfr, swap, State.setFrames_setFrames, swap, State.setFrames_setFrames]
  exact st
end VC
