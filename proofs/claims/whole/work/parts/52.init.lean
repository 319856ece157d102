/-! CONSTRUCTORS: contracts of methods that make cells; KI: behind it a world w1 u for some u -/
def rmI (f c n k : Nat) : Room := { frames := f, cells := c, slots := n, locals := k }
def KI {S : Type} (l : Launch) (y : MethodName) (ws : List Cond) (rm : Room) (G : State → Prop) (av : List Value) (D : va_G) (cI : ClassId) (wc : va_W) (w1 : S → va_W) : Prop :=
  ∀ sz : Nat, Met l y ws rm (va_Pc av (fun U => kp_ D cI wc sz U ∧ G U)) (va_Qv (fun _ : S => True) (fun u t => kb_ D cI (w1 u) (va_A wc sz) t) (va_A wc sz)) rm.cells rm.slots (va_A wc sz)
section KIS
variable {p : Program} {l : Launch} {e : Env} {R : Room} {s : State} {m : MethodId} {args : Array Value} {below : List Frame} {meth : Method} {c : Code} {H : Heap} {locs : List Loc} {cells slots : Nat} {Q : State → Prop}
variable {D : va_G} {cI : ClassId} {A : Nat → Prop} {cc : ByteArray} {pc : Nat} {ls : Array Slot} {rest st0 : List Value} {S : Type} {G : State → Prop}
theorem KI.of {y : MethodName} {ws ws' : List Cond} {rm : Room} {av : List Value} {wc : va_W} {w1 : S → va_W} {maxL : Nat} (hy : plainName y.cls = true) (hw : ws = Cond.code y cc maxL none :: ws') (hlen : (lg_sl av).length ≤ maxL) (hyi : y.name = "<init>")
    (body : ∀ (p : Program) (e : Env) (s : State) (m : MethodId) (below : List Frame) (meth : Method) (c : Code) (A : Nat → Prop), p.tables.exec = Jvm.exec → c.code = cc → meth.sig.returnType = none → (∀ w ∈ ws, w.before av.toArray s = true) → s.vm.findClass y.cls = some m.cls → meth.locks = false → c.maxLocals = maxL → meth.name = "<init>" →
      va_K D vwCl [(cI, .int)] s → va_P D vwCl wc s.heap → va_D A wc → va_S A s.heap s.heap [] → (∀ q : Nat, s.heap.size ≤ q → A q) → G s → ∀ ls : Array Slot, lv_has ls maxL (lv_args 0 av) →
      W p l e rm s m av.toArray below meth c s.heap [] 0 0 (MQ below (va_Qv (fun _ : S => True) (fun u t => kb_ D cI (w1 u) A t) A) av.toArray s rm.cells rm.slots A) (F0 m 0 ls [])) : KI l y ws rm G av D cI wc w1 := by
  intro sz
  refine Met.ofW (cc := cc) (maxL := maxL) (ret := none) hy hw ?_
  intro p e s m args below meth c s₁ B hml hv
  obtain ⟨rfl, ⟨hsz, hP, hK, hD0⟩, hG⟩ := hv
  subst hsz
  have hts := atoms_spec (ws := ws) B.pre
  have hown : s.vm.findClass y.cls = some m.cls := findClass_of_methodNamed B.named
  have hl := lv_entry av (n := maxL) hlen
  rw [lg_entry_eq]
  exact body p e s m below meth c _ B.exec B.bytes B.returns hts hown B.notSynchronized hml ((name_of_methodNamed B.named B.method).1.trans hyi) hK hP hD0.self va_S.rf (fun q h => Or.inr h) hG _ hl
theorem KI.ret {w1 : S → va_W} (u : S) (hx : p.tables.exec = Jvm.exec) (hb : c.code = cc) (hr : meth.sig.returnType = none) (hlocks : meth.locks = false) (hK : va_K D vwCl [(cI, .int)] s) (hP : va_P D vwCl (w1 u) H) (hD : va_D A (w1 u)) (hS : va_S A s.heap H locs)
    (hdg : decode cc pc = .ok (.return_, 1)) : W p l e R s m args below meth c H locs cells slots (MQ below (va_Qv (fun _ : S => True) (fun u t => kb_ D cI (w1 u) A t) A) args s cells slots A) (F0 m pc ls []) :=
  W.vret hx hb hr (fun t ht hW => ⟨⟨u, rfl, trivial, by rw [ht]; exact hP, va_K.moved hW.alike hK, hD⟩, hS.F ht⟩) hS.2.2 hdg hlocks
/-- a new array of ints: its class is cI -/
theorem k_newi (hx : p.tables.exec = Jvm.exec) (hb : c.code = cc) (harr : (Cond.arrayClass .int).before args s = true) {ws : va_W} (hK : va_K D vwCl [(cI, .int)] s) (hP : va_P D vwCl ws H) (hD : va_D A ws) (hS : va_S A s.heap H locs) (hA : ∀ q, s.heap.size ≤ q → A q)
    {n : Int32} (N : Nat) (hn : n = nI N) (hN : N ≤ 8192) (hcells : cells + 1 ≤ R.cells) (hslots : slots + N ≤ R.slots) (hdg : decode cc pc = .ok (.newarray .int, 2))
    (kk : ∀ (q : Nat) (H1 : Heap), va_P D vwCl (ws ++ [(q, .inl (cI, N, .inl (fun _ => 0)))]) H1 → va_D A (ws ++ [(q, .inl (cI, N, .inl (fun _ => 0)))]) → va_S A s.heap H1 locs →
      W p l e R s m args below meth c H1 locs (cells + 1) (slots + N) Q (F0 m (pc + 2) ls (.ref q :: rest))) : W p l e R s m args below meth c H locs cells slots Q (F0 m pc ls (.int n :: rest)) := by
  subst hn
  refine va_newa (atype := .int) (ty := .int) (a0 := (N, .inl (fun _ => 0))) hx hb harr rfl hK hP hD hS hA (fun _ => rfl) (nI_pos (by omega)) (nI_clamp (by omega)) ?_ hcells hslots hdg (fun q cA H1 hK1 hP1 hD1 hS1 => ?_)
  · show N * 4 ≤ 536870912
    omega
  · have e1 : s.vm.findClass ("[" ++ (FieldType.int).toString) = some cA := (hK1.2 1 (cA, .int) rfl).2
    have e2 : s.vm.findClass ("[" ++ (FieldType.int).toString) = some cI := (hK.2 0 (cI, .int) rfl).2
    have e : cA = cI := Option.some.inj (e1.symm.trans e2)
    subst e
    exact kk q H1 hP1 hD1 hS1
theorem ki_blind {av : List Value} {ws : va_W} {sz : Nat} (hGb : ∀ u U : State, U.vm = u.vm → G u → G U) : FrameBlind (va_Pc av (fun U => kp_ D cI ws sz U ∧ G U)) :=
  fun a U g mk q => by
    obtain ⟨q0, ⟨q1, qP, qK, qD⟩, qG⟩ := q
    exact ⟨q0, ⟨q1, qP, va_K.moved (u := U) (U := U.calling g mk a) (Vm.Alike.refl U.vm) qK, qD⟩, hGb U (U.calling g mk a) rfl qG⟩
theorem KI.callI {y : MethodName} {wsY Ts : List Cond} {rm : Room} {n index maxL nL : Nat} {own : String} {bytes : ByteArray} {b : Nat} {As : List Value} {ws wc wr : va_W} {w1 : S → va_W}
    (hM : KI l y wsY rm G (.ref b :: As) D cI wc w1) (cw : CallB R s args own index y bytes maxL none wsY rm rm.cells rm.slots n ∧ y.name = "<init>" ∧ (Cond.instanceMethod y).before args s = true) (F : CallFix p m c cc nL s args Ts own) (hGb : ∀ u U : State, U.vm = u.vm → G u → G U) (hGs : ∀ U : State, s.WarmedH U.vm → G U)
    (hK : va_K D vwCl [(cI, .int)] s) (hP : va_P D vwCl ws H) (hD : va_D A ws) (hS : va_S A s.heap H locs) (hA : ∀ q, s.heap.size ≤ q → A q)
    (isC isR : List Nat) (hnC : va_nd isC = true) (hC : isC.map (fun i => ws[i]?) = wc.map some) (hR : isR.map (fun i => ws[i]?) = wr.map some) (hn : va_nd isR = true) (hdis : ∀ i ∈ isR, i ∉ isC)
    (hAs : As.length = n) (hsz : ls.size = nL) (hst : st0 = As.reverse ++ .ref b :: rest) (hW : (rest.map fun v => v.category).sum ≤ 8) (hdg : decode cc pc = .ok (.invokespecial index, 3)) (hf : cells + rm.cells ≤ R.cells ∧ slots + rm.slots ≤ R.slots)
    (kk : ∀ (u : S) (H1 : Heap) (locs1 : List Loc), va_P D vwCl (wr ++ w1 u) H1 → va_D A (wr ++ w1 u) → va_S A s.heap H1 locs1 → W p l e R s m args below meth c H1 locs1 (cells + rm.cells) (slots + rm.slots) Q (F0 m (pc + 3) ls rest)) : W p l e R s m args below meth c H locs cells slots Q (F0 m pc ls st0) := by
  have hPc := hP.sub isC (k_fm hC)
  have hDc := hD.sub isC hnC hC
  have hFc := va_free hD hS hA isC hC
  refine va_callv (va_runI (e := e) (below := below) (meth := meth) (locs := locs) (g := F0 m pc ls st0) (rest := rest) F (hM H.size) cw ⟨ki_blind hGb, fun U hU hW => ⟨rfl, ⟨by rw [hU], by rw [hU]; exact hPc, va_K.moved hW.alike hK, hDc.weaken (fun _ _ _ _ => trivial)⟩, hGs U hW⟩⟩ rfl hAs hsz hst (lv_room hW) hdg hf) hS (fun q _ h => hFc q h) hFc (fun u t H1 locs1 ht hvm _ hB hz1 hk1 hS1 => ?_)
  obtain ⟨hP1, hK1, hD1⟩ := hB
  rw [ht] at hP1
  obtain ⟨hP2, hD2⟩ := va_join hP hD isC isR hC hR hn hdis hk1 hFc hP1 hD1
  exact kk u H1 locs1 hP2 hD2 hS1
theorem KI.callN {y : MethodName} {wsY Ts : List Cond} {rm : Room} {n index maxL nL : Nat} {own host : String} {bytes : ByteArray} {b : Nat} {As : List Value} {ws wc wr : va_W} {w1 : S → va_W}
    (hM : KI l y wsY rm G (.ref b :: As) D cI wc w1) (cw : va_CN R s args own index y host bytes maxL none wsY rm rm.cells rm.slots n ∧ y.name = "<init>" ∧ (Cond.instanceMethod y).before args s = true) (F : CallFix p m c cc nL s args Ts own) (hGb : ∀ u U : State, U.vm = u.vm → G u → G U) (hGs : ∀ U : State, s.WarmedH U.vm → G U)
    (hK : va_K D vwCl [(cI, .int)] s) (hP : va_P D vwCl ws H) (hD : va_D A ws) (hS : va_S A s.heap H locs) (hA : ∀ q, s.heap.size ≤ q → A q)
    (isC isR : List Nat) (hnC : va_nd isC = true) (hC : isC.map (fun i => ws[i]?) = wc.map some) (hR : isR.map (fun i => ws[i]?) = wr.map some) (hn : va_nd isR = true) (hdis : ∀ i ∈ isR, i ∉ isC)
    (hAs : As.length = n) (hsz : ls.size = nL) (hst : st0 = As.reverse ++ .ref b :: rest) (hW : (rest.map fun v => v.category).sum ≤ 8) (hdg : decode cc pc = .ok (.invokespecial index, 3)) (hf : cells + rm.cells ≤ R.cells ∧ slots + rm.slots ≤ R.slots)
    (kk : ∀ (u : S) (H1 : Heap) (locs1 : List Loc), va_P D vwCl (wr ++ w1 u) H1 → va_D A (wr ++ w1 u) → va_S A s.heap H1 locs1 → W p l e R s m args below meth c H1 locs1 (cells + rm.cells) (slots + rm.slots) Q (F0 m (pc + 3) ls rest)) : W p l e R s m args below meth c H locs cells slots Q (F0 m pc ls st0) := by
  have hPc := hP.sub isC (k_fm hC)
  have hDc := hD.sub isC hnC hC
  have hFc := va_free hD hS hA isC hC
  refine va_callv (va_runIN (e := e) (below := below) (meth := meth) (locs := locs) (g := F0 m pc ls st0) (rest := rest) F (hM H.size) cw ⟨ki_blind hGb, fun U hU hW => ⟨rfl, ⟨by rw [hU], by rw [hU]; exact hPc, va_K.moved hW.alike hK, hDc.weaken (fun _ _ _ _ => trivial)⟩, hGs U hW⟩⟩ rfl hAs hsz hst (lv_room hW) hdg hf) hS (fun q _ h => hFc q h) hFc (fun u t H1 locs1 ht hvm _ hB hz1 hk1 hS1 => ?_)
  obtain ⟨hP1, hK1, hD1⟩ := hB
  rw [ht] at hP1
  obtain ⟨hP2, hD2⟩ := va_join hP hD isC isR hC hR hn hdis hk1 hFc hP1 hD1
  exact kk u H1 locs1 hP2 hD2 hS1
end KIS
def zI : Nat → Int32 := fun _ => 0
set_option maxHeartbeats 4000000 in
set_option maxRecDepth 100000 in
theorem kX0_init (l : Launch) (D : va_G) (cI : ClassId) (h : Nat) (g : Nat → Int32) : KI (S := Unit) l yX0_init wsX0_init (rmI 1 0 0 12) (fun _ => True) [.ref h] D cI ([(h, .inr (0, [.int (g 8), .int (g 9), .int (g 10)]))]) (fun _ => [(h, .inr (0, [.int (g 8), .int (g 9), .int (g 10)]))]) := by
  refine KI.of (cc := cX0_init) (maxL := 1) (by decide) rfl (Nat.le_of_ble_eq_true rfl) rfl ?_
  intro p e s m below meth c A hx hb hr hts hown hlocks hml hin hK hP hD hS hA hG ls hl
  have hl : lv_has ls 1 [(0, .ref h)] := hl
  have hown : s.vm.findClass RX0 = some m.cls := hown
  refine lv_aload_n hx hb dX0_init_0 rfl (lv_at hl 0 rfl) ?_
  refine W.objInit hx hb hown (hts (.methodLink RX0 1 objectInit) (by decide +kernel)) (hts (.instanceMethod objectInit) (by decide +kernel)) (hts (.code objectInit ⟨#[0xb1]⟩ 1 none) (by decide +kernel)) rfl (by rw [hml]; exact hl.1) rfl dX0_init_1 (Nat.le_of_ble_eq_true rfl) (Nat.le_of_ble_eq_true rfl) ?_
  refine W.eq (g2 := F0 m 4 ls []) rfl ?_
  exact KI.ret () hx hb hr hlocks hK hP hD hS dX0_init_4
set_option maxHeartbeats 4000000 in
set_option maxRecDepth 100000 in
theorem kX1_init (l : Launch) (D : va_G) (cI : ClassId) (h : Nat) : KI (S := Nat × Nat) l yX1_init wsX1_init (rmI 1 2 10240 12) (fun _ => True) [.ref h] D cI ([(h, .inr (1, [.null, .null]))]) (fun u => [(h, .inr (1, [.ref u.1, .ref u.2])), (u.1, .inl (cI, 2048, .inl (fun _ => 0))), (u.2, .inl (cI, 8192, .inl (fun _ => 0)))]) := by
  refine KI.of (cc := cX1_init) (maxL := 1) (by decide) rfl (Nat.le_of_ble_eq_true rfl) rfl ?_
  intro p e s m below meth c A hx hb hr hts hown hlocks hml hin hK hP hD hS hA hG ls hl
  have hl : lv_has ls 1 [(0, .ref h)] := hl
  have hown : s.vm.findClass RX1 = some m.cls := hown
  refine lv_aload_n hx hb dX1_init_0 rfl (lv_at hl 0 rfl) ?_
  refine W.objInit hx hb hown (hts (.methodLink RX1 1 objectInit) (by decide +kernel)) (hts (.instanceMethod objectInit) (by decide +kernel)) (hts (.code objectInit ⟨#[0xb1]⟩ 1 none) (by decide +kernel)) rfl (by rw [hml]; exact hl.1) rfl dX1_init_1 (Nat.le_of_ble_eq_true rfl) (Nat.le_of_ble_eq_true rfl) ?_
  refine W.eq (g2 := F0 m 4 ls []) rfl ?_
  refine lv_aload_n hx hb dX1_init_4 rfl (lv_at hl 0 rfl) ?_
  refine lv_sipush (v := 2048) hx hb dX1_init_5 (by decide) ?_
  refine k_newi (N := 2048) hx hb (hts (.arrayClass .int) (by decide +kernel)) hK hP hD hS hA rfl (by decide) (Nat.le_of_ble_eq_true rfl) (Nat.le_of_ble_eq_true rfl) dX1_init_8 (fun q0 H hP hD hS => ?_)
  have hP : va_P D vwCl [(h, .inr (1, [.null, .null])), (q0, .inl (cI, 2048, .inl (fun _ => 0)))] H := hP
  have hD : va_D A [(h, .inr (1, [.null, .null])), (q0, .inl (cI, 2048, .inl (fun _ => 0)))] := hD
  refine va_putF (D := D) (ci := 1) (v := .ref q0) (ty := .array .int) (C := RX1) (T := TX1) (N := 2) hx hb hts (fun w h => List.mem_cons_of_mem _ (List.mem_append_right _ h)) tyX1 tyX1_ok nmX1 hown hK hP hD hS 0 rfl rfl 0 (by decide) (hts (.fieldLink RX1 9 "InvaderBoard$Memory" "rom" "[I") (by decide +kernel)) (fun _ h9 => h9) rfl hin rfl (by decide +kernel) rfl rfl (Nat.le_of_ble_eq_true rfl) dX1_init_10 (fun H locs hP hD hS => ?_)
  have hP : va_P D vwCl [(h, .inr (1, [.ref q0, .null])), (q0, .inl (cI, 2048, .inl (fun _ => 0)))] H := hP
  have hD : va_D A [(h, .inr (1, [.ref q0, .null])), (q0, .inl (cI, 2048, .inl (fun _ => 0)))] := hD
  refine lv_aload_n hx hb dX1_init_13 rfl (lv_at hl 0 rfl) ?_
  refine lv_sipush (v := 8192) hx hb dX1_init_14 (by decide) ?_
  refine k_newi (N := 8192) hx hb (hts (.arrayClass .int) (by decide +kernel)) hK hP hD hS hA rfl (by decide) (Nat.le_of_ble_eq_true rfl) (Nat.le_of_ble_eq_true rfl) dX1_init_17 (fun q1 H hP hD hS => ?_)
  have hP : va_P D vwCl [(h, .inr (1, [.ref q0, .null])), (q0, .inl (cI, 2048, .inl (fun _ => 0))), (q1, .inl (cI, 8192, .inl (fun _ => 0)))] H := hP
  have hD : va_D A [(h, .inr (1, [.ref q0, .null])), (q0, .inl (cI, 2048, .inl (fun _ => 0))), (q1, .inl (cI, 8192, .inl (fun _ => 0)))] := hD
  refine va_putF (D := D) (ci := 1) (v := .ref q1) (ty := .array .int) (C := RX1) (T := TX1) (N := 2) hx hb hts (fun w h => List.mem_cons_of_mem _ (List.mem_append_right _ h)) tyX1 tyX1_ok nmX1 hown hK hP hD hS 0 rfl rfl 1 (by decide) (hts (.fieldLink RX1 13 "InvaderBoard$Memory" "ram" "[I") (by decide +kernel)) (fun _ h9 => h9) rfl hin rfl (by decide +kernel) rfl rfl (Nat.le_of_ble_eq_true rfl) dX1_init_19 (fun H locs hP hD hS => ?_)
  have hP : va_P D vwCl [(h, .inr (1, [.ref q0, .ref q1])), (q0, .inl (cI, 2048, .inl (fun _ => 0))), (q1, .inl (cI, 8192, .inl (fun _ => 0)))] H := hP
  have hD : va_D A [(h, .inr (1, [.ref q0, .ref q1])), (q0, .inl (cI, 2048, .inl (fun _ => 0))), (q1, .inl (cI, 8192, .inl (fun _ => 0)))] := hD
  exact KI.ret (cells := 2) (slots := 10240) (q0, q1) hx hb hr hlocks hK hP hD hS dX1_init_22
set_option maxHeartbeats 4000000 in
set_option maxRecDepth 100000 in
theorem kX2_init (l : Launch) (D : va_G) (cI : ClassId) (h : Nat) : KI (S := Nat × Nat × Nat) l yX2_init wsX2_init (rmI 1 3 21 12) (fun _ => True) [.ref h] D cI ([(h, .inr (2, [.null, .null, .null, .int 0, .int 0, .int 0]))]) (fun u => [(h, .inr (2, [.ref u.1, .ref u.2.1, .ref u.2.2, .int 0, .int 0, .int 0])), (u.1, .inl (cI, 3, .inl (fun _ => 0))), (u.2.1, .inl (cI, 2, .inl (fun _ => 0))), (u.2.2, .inl (cI, 16, .inl (fun _ => 0)))]) := by
  refine KI.of (cc := cX2_init) (maxL := 1) (by decide) rfl (Nat.le_of_ble_eq_true rfl) rfl ?_
  intro p e s m below meth c A hx hb hr hts hown hlocks hml hin hK hP hD hS hA hG ls hl
  have hl : lv_has ls 1 [(0, .ref h)] := hl
  have hown : s.vm.findClass RX2 = some m.cls := hown
  refine lv_aload_n hx hb dX2_init_0 rfl (lv_at hl 0 rfl) ?_
  refine W.objInit hx hb hown (hts (.methodLink RX2 1 objectInit) (by decide +kernel)) (hts (.instanceMethod objectInit) (by decide +kernel)) (hts (.code objectInit ⟨#[0xb1]⟩ 1 none) (by decide +kernel)) rfl (by rw [hml]; exact hl.1) rfl dX2_init_1 (Nat.le_of_ble_eq_true rfl) (Nat.le_of_ble_eq_true rfl) ?_
  refine W.eq (g2 := F0 m 4 ls []) rfl ?_
  refine lv_aload_n hx hb dX2_init_4 rfl (lv_at hl 0 rfl) ?_
  refine lv_iconst (v := 3) hx hb dX2_init_5 (by decide) ?_
  refine k_newi (N := 3) hx hb (hts (.arrayClass .int) (by decide +kernel)) hK hP hD hS hA rfl (by decide) (Nat.le_of_ble_eq_true rfl) (Nat.le_of_ble_eq_true rfl) dX2_init_6 (fun q0 H hP hD hS => ?_)
  have hP : va_P D vwCl [(h, .inr (2, [.null, .null, .null, .int 0, .int 0, .int 0])), (q0, .inl (cI, 3, .inl (fun _ => 0)))] H := hP
  have hD : va_D A [(h, .inr (2, [.null, .null, .null, .int 0, .int 0, .int 0])), (q0, .inl (cI, 3, .inl (fun _ => 0)))] := hD
  refine va_putF (D := D) (ci := 2) (v := .ref q0) (ty := .array .int) (C := RX2) (T := TX2) (N := 6) hx hb hts (fun w h => List.mem_cons_of_mem _ (List.mem_append_right _ h)) tyX2 tyX2_ok nmX2 hown hK hP hD hS 0 rfl rfl 0 (by decide) (hts (.fieldLink RX2 9 "InvaderBoard$Ports" "inputs" "[I") (by decide +kernel)) (fun _ h9 => h9) rfl hin rfl (by decide +kernel) rfl rfl (Nat.le_of_ble_eq_true rfl) dX2_init_8 (fun H locs hP hD hS => ?_)
  have hP : va_P D vwCl [(h, .inr (2, [.ref q0, .null, .null, .int 0, .int 0, .int 0])), (q0, .inl (cI, 3, .inl (fun _ => 0)))] H := hP
  have hD : va_D A [(h, .inr (2, [.ref q0, .null, .null, .int 0, .int 0, .int 0])), (q0, .inl (cI, 3, .inl (fun _ => 0)))] := hD
  refine lv_aload_n hx hb dX2_init_11 rfl (lv_at hl 0 rfl) ?_
  refine lv_iconst (v := 2) hx hb dX2_init_12 (by decide) ?_
  refine k_newi (N := 2) hx hb (hts (.arrayClass .int) (by decide +kernel)) hK hP hD hS hA rfl (by decide) (Nat.le_of_ble_eq_true rfl) (Nat.le_of_ble_eq_true rfl) dX2_init_13 (fun q1 H hP hD hS => ?_)
  have hP : va_P D vwCl [(h, .inr (2, [.ref q0, .null, .null, .int 0, .int 0, .int 0])), (q0, .inl (cI, 3, .inl (fun _ => 0))), (q1, .inl (cI, 2, .inl (fun _ => 0)))] H := hP
  have hD : va_D A [(h, .inr (2, [.ref q0, .null, .null, .int 0, .int 0, .int 0])), (q0, .inl (cI, 3, .inl (fun _ => 0))), (q1, .inl (cI, 2, .inl (fun _ => 0)))] := hD
  refine va_putF (D := D) (ci := 2) (v := .ref q1) (ty := .array .int) (C := RX2) (T := TX2) (N := 6) hx hb hts (fun w h => List.mem_cons_of_mem _ (List.mem_append_right _ h)) tyX2 tyX2_ok nmX2 hown hK hP hD hS 0 rfl rfl 1 (by decide) (hts (.fieldLink RX2 13 "InvaderBoard$Ports" "latches" "[I") (by decide +kernel)) (fun _ h9 => h9) rfl hin rfl (by decide +kernel) rfl rfl (Nat.le_of_ble_eq_true rfl) dX2_init_15 (fun H locs hP hD hS => ?_)
  have hP : va_P D vwCl [(h, .inr (2, [.ref q0, .ref q1, .null, .int 0, .int 0, .int 0])), (q0, .inl (cI, 3, .inl (fun _ => 0))), (q1, .inl (cI, 2, .inl (fun _ => 0)))] H := hP
  have hD : va_D A [(h, .inr (2, [.ref q0, .ref q1, .null, .int 0, .int 0, .int 0])), (q0, .inl (cI, 3, .inl (fun _ => 0))), (q1, .inl (cI, 2, .inl (fun _ => 0)))] := hD
  refine lv_aload_n hx hb dX2_init_18 rfl (lv_at hl 0 rfl) ?_
  refine lv_bipush (v := 16) hx hb dX2_init_19 (by decide) ?_
  refine k_newi (N := 16) hx hb (hts (.arrayClass .int) (by decide +kernel)) hK hP hD hS hA rfl (by decide) (Nat.le_of_ble_eq_true rfl) (Nat.le_of_ble_eq_true rfl) dX2_init_21 (fun q2 H hP hD hS => ?_)
  have hP : va_P D vwCl [(h, .inr (2, [.ref q0, .ref q1, .null, .int 0, .int 0, .int 0])), (q0, .inl (cI, 3, .inl (fun _ => 0))), (q1, .inl (cI, 2, .inl (fun _ => 0))), (q2, .inl (cI, 16, .inl (fun _ => 0)))] H := hP
  have hD : va_D A [(h, .inr (2, [.ref q0, .ref q1, .null, .int 0, .int 0, .int 0])), (q0, .inl (cI, 3, .inl (fun _ => 0))), (q1, .inl (cI, 2, .inl (fun _ => 0))), (q2, .inl (cI, 16, .inl (fun _ => 0)))] := hD
  refine va_putF (D := D) (ci := 2) (v := .ref q2) (ty := .array .int) (C := RX2) (T := TX2) (N := 6) hx hb hts (fun w h => List.mem_cons_of_mem _ (List.mem_append_right _ h)) tyX2 tyX2_ok nmX2 hown hK hP hD hS 0 rfl rfl 2 (by decide) (hts (.fieldLink RX2 16 "InvaderBoard$Ports" "rises" "[I") (by decide +kernel)) (fun _ h9 => h9) rfl hin rfl (by decide +kernel) rfl rfl (Nat.le_of_ble_eq_true rfl) dX2_init_23 (fun H locs hP hD hS => ?_)
  have hP : va_P D vwCl [(h, .inr (2, [.ref q0, .ref q1, .ref q2, .int 0, .int 0, .int 0])), (q0, .inl (cI, 3, .inl (fun _ => 0))), (q1, .inl (cI, 2, .inl (fun _ => 0))), (q2, .inl (cI, 16, .inl (fun _ => 0)))] H := hP
  have hD : va_D A [(h, .inr (2, [.ref q0, .ref q1, .ref q2, .int 0, .int 0, .int 0])), (q0, .inl (cI, 3, .inl (fun _ => 0))), (q1, .inl (cI, 2, .inl (fun _ => 0))), (q2, .inl (cI, 16, .inl (fun _ => 0)))] := hD
  exact KI.ret (cells := 3) (slots := 21) (q0, q1, q2) hx hb hr hlocks hK hP hD hS dX2_init_26
set_option maxHeartbeats 4000000 in
set_option maxRecDepth 100000 in
theorem kX3_init (l : Launch) (D : va_G) (cI : ClassId) (h b1 b2 : Nat) : KI (S := Nat) l yX3_init wsX3_init (rmI 1 1 8 12) (fun _ => True) [.ref h, .ref b1, .ref b2] D cI ([(h, .inr (3, [.null, .null, .null, .int 0, .int 0, .int 0, .int 0, .int 0, .int 0]))]) (fun u => [(h, .inr (3, [.ref b1, .ref b2, .ref u, .int 2, .int 0, .int 0, .int 0, .int 0, .int 0])), (u, .inl (cI, 8, .inl (fun _ => 0)))]) := by
  refine KI.of (cc := cX3_init) (maxL := 3) (by decide) rfl (Nat.le_of_ble_eq_true rfl) rfl ?_
  intro p e s m below meth c A hx hb hr hts hown hlocks hml hin hK hP hD hS hA hG ls hl
  have hl : lv_has ls 3 [(0, .ref h), (1, .ref b1), (2, .ref b2)] := hl
  have hown : s.vm.findClass RX3 = some m.cls := hown
  refine lv_aload_n hx hb dX3_init_0 rfl (lv_at hl 0 rfl) ?_
  refine W.objInit hx hb hown (hts (.methodLink RX3 3 objectInit) (by decide +kernel)) (hts (.instanceMethod objectInit) (by decide +kernel)) (hts (.code objectInit ⟨#[0xb1]⟩ 1 none) (by decide +kernel)) rfl (by rw [hml]; exact hl.1) rfl dX3_init_1 (Nat.le_of_ble_eq_true rfl) (Nat.le_of_ble_eq_true rfl) ?_
  refine W.eq (g2 := F0 m 4 ls []) rfl ?_
  refine lv_aload_n hx hb dX3_init_4 rfl (lv_at hl 0 rfl) ?_
  refine lv_bipush (v := 8) hx hb dX3_init_5 (by decide) ?_
  refine k_newi (N := 8) hx hb (hts (.arrayClass .int) (by decide +kernel)) hK hP hD hS hA rfl (by decide) (Nat.le_of_ble_eq_true rfl) (Nat.le_of_ble_eq_true rfl) dX3_init_7 (fun q0 H hP hD hS => ?_)
  have hP : va_P D vwCl [(h, .inr (3, [.null, .null, .null, .int 0, .int 0, .int 0, .int 0, .int 0, .int 0])), (q0, .inl (cI, 8, .inl (fun _ => 0)))] H := hP
  have hD : va_D A [(h, .inr (3, [.null, .null, .null, .int 0, .int 0, .int 0, .int 0, .int 0, .int 0])), (q0, .inl (cI, 8, .inl (fun _ => 0)))] := hD
  refine va_putF (D := D) (ci := 3) (v := .ref q0) (ty := .array .int) (C := RX3) (T := TX3) (N := 9) hx hb hts (fun w h => List.mem_cons_of_mem _ (List.mem_append_right _ h)) tyX3 tyX3_ok nmX3 hown hK hP hD hS 0 rfl rfl 2 (by decide) (hts (.fieldLink RX3 9 "InvaderBoard$Processor" "registers" "[I") (by decide +kernel)) (fun _ h9 => h9) rfl hin rfl (by decide +kernel) rfl rfl (Nat.le_of_ble_eq_true rfl) dX3_init_9 (fun H locs hP hD hS => ?_)
  have hP : va_P D vwCl [(h, .inr (3, [.null, .null, .ref q0, .int 0, .int 0, .int 0, .int 0, .int 0, .int 0])), (q0, .inl (cI, 8, .inl (fun _ => 0)))] H := hP
  have hD : va_D A [(h, .inr (3, [.null, .null, .ref q0, .int 0, .int 0, .int 0, .int 0, .int 0, .int 0])), (q0, .inl (cI, 8, .inl (fun _ => 0)))] := hD
  refine lv_aload_n hx hb dX3_init_12 rfl (lv_at hl 0 rfl) ?_
  refine lv_iconst (v := 2) hx hb dX3_init_13 (by decide) ?_
  refine va_put (D := D) (ci := 3) (v := .int 2) (ty := .int) (C := RX3) (T := TX3) (N := 9) hx hb hts (fun w h => List.mem_cons_of_mem _ (List.mem_append_right _ h)) tyX3 tyX3_ok nmX3 hown hK hP hD hS 0 rfl rfl 3 (by decide) (hts (.fieldLink RX3 13 "InvaderBoard$Processor" "flags" "I") (by decide +kernel)) (fun _ h9 => h9) rfl (by decide +kernel) rfl rfl (Nat.le_of_ble_eq_true rfl) dX3_init_14 (fun H locs hP hD hS => ?_)
  have hP : va_P D vwCl [(h, .inr (3, [.null, .null, .ref q0, .int 2, .int 0, .int 0, .int 0, .int 0, .int 0])), (q0, .inl (cI, 8, .inl (fun _ => 0)))] H := hP
  have hD : va_D A [(h, .inr (3, [.null, .null, .ref q0, .int 2, .int 0, .int 0, .int 0, .int 0, .int 0])), (q0, .inl (cI, 8, .inl (fun _ => 0)))] := hD
  refine lv_aload_n hx hb dX3_init_17 rfl (lv_at hl 0 rfl) ?_
  refine lv_aload_n hx hb dX3_init_18 rfl (lv_at hl 1 rfl) ?_
  refine va_putF (D := D) (ci := 3) (v := .ref b1) (ty := .object "InvaderBoard$Memory") (C := RX3) (T := TX3) (N := 9) hx hb hts (fun w h => List.mem_cons_of_mem _ (List.mem_append_right _ h)) tyX3 tyX3_ok nmX3 hown hK hP hD hS 0 rfl rfl 0 (by decide) (hts (.fieldLink RX3 17 "InvaderBoard$Processor" "store" "LInvaderBoard$Memory;") (by decide +kernel)) (fun _ h9 => h9) rfl hin rfl (by decide +kernel) rfl rfl (Nat.le_of_ble_eq_true rfl) dX3_init_19 (fun H locs hP hD hS => ?_)
  have hP : va_P D vwCl [(h, .inr (3, [.ref b1, .null, .ref q0, .int 2, .int 0, .int 0, .int 0, .int 0, .int 0])), (q0, .inl (cI, 8, .inl (fun _ => 0)))] H := hP
  have hD : va_D A [(h, .inr (3, [.ref b1, .null, .ref q0, .int 2, .int 0, .int 0, .int 0, .int 0, .int 0])), (q0, .inl (cI, 8, .inl (fun _ => 0)))] := hD
  refine lv_aload_n hx hb dX3_init_22 rfl (lv_at hl 0 rfl) ?_
  refine lv_aload_n hx hb dX3_init_23 rfl (lv_at hl 2 rfl) ?_
  refine va_putF (D := D) (ci := 3) (v := .ref b2) (ty := .object "InvaderBoard$Ports") (C := RX3) (T := TX3) (N := 9) hx hb hts (fun w h => List.mem_cons_of_mem _ (List.mem_append_right _ h)) tyX3 tyX3_ok nmX3 hown hK hP hD hS 0 rfl rfl 1 (by decide) (hts (.fieldLink RX3 21 "InvaderBoard$Processor" "ports" "LInvaderBoard$Ports;") (by decide +kernel)) (fun _ h9 => h9) rfl hin rfl (by decide +kernel) rfl rfl (Nat.le_of_ble_eq_true rfl) dX3_init_24 (fun H locs hP hD hS => ?_)
  have hP : va_P D vwCl [(h, .inr (3, [.ref b1, .ref b2, .ref q0, .int 2, .int 0, .int 0, .int 0, .int 0, .int 0])), (q0, .inl (cI, 8, .inl (fun _ => 0)))] H := hP
  have hD : va_D A [(h, .inr (3, [.ref b1, .ref b2, .ref q0, .int 2, .int 0, .int 0, .int 0, .int 0, .int 0])), (q0, .inl (cI, 8, .inl (fun _ => 0)))] := hD
  exact KI.ret (cells := 1) (slots := 8) q0 hx hb hr hlocks hK hP hD hS dX3_init_27
set_option maxHeartbeats 4000000 in
set_option maxRecDepth 100000 in
theorem kX5_init (l : Launch) (D : va_G) (cI : ClassId) (h : Nat) : KI (S := Nat → Nat) l yX5_init wsX5_init (rmI 1 6 10269 12) (fun _ => True) [.ref h] D cI ([(h, .inr (5, [.int 0, .null, .null, .null, .int 0, .int 0, .int 0, .int 0, .int 0, .int 0, .int 0, .int 0, .int 0, .int 0, .int 0, .int 0, .null, .int 0, .int 0, .null, .null, .int 0, .int 0, .int 0]))]) (fun u => wR cI (fun k => if k = 20 then h else u k) zI (fun _ => zI)) := by
  refine KI.of (cc := cX5_init) (maxL := 1) (by decide) rfl (Nat.le_of_ble_eq_true rfl) rfl ?_
  intro p e s m below meth c A hx hb hr hts hown hlocks hml hin hK hP hD hS hA hG ls hl
  have hl : lv_has ls 1 [(0, .ref h)] := hl
  have hown : s.vm.findClass RX5 = some m.cls := hown
  refine lv_aload_n hx hb dX5_init_0 rfl (lv_at hl 0 rfl) ?_
  refine W.objInit hx hb hown (hts (.methodLink RX5 1 objectInit) (by decide +kernel)) (hts (.instanceMethod objectInit) (by decide +kernel)) (hts (.code objectInit ⟨#[0xb1]⟩ 1 none) (by decide +kernel)) rfl (by rw [hml]; exact hl.1) rfl dX5_init_1 (Nat.le_of_ble_eq_true rfl) (Nat.le_of_ble_eq_true rfl) ?_
  refine W.eq (g2 := F0 m 4 ls []) rfl ?_
  refine lv_aload_n hx hb dX5_init_4 rfl (lv_at hl 0 rfl) ?_
  refine lv_sipush (v := 2048) hx hb dX5_init_5 (by decide) ?_
  refine k_newi (N := 2048) hx hb (hts (.arrayClass .int) (by decide +kernel)) hK hP hD hS hA rfl (by decide) (Nat.le_of_ble_eq_true rfl) (Nat.le_of_ble_eq_true rfl) dX5_init_8 (fun q0 H hP hD hS => ?_)
  have hP : va_P D vwCl [(h, .inr (5, [.int 0, .null, .null, .null, .int 0, .int 0, .int 0, .int 0, .int 0, .int 0, .int 0, .int 0, .int 0, .int 0, .int 0, .int 0, .null, .int 0, .int 0, .null, .null, .int 0, .int 0, .int 0])), (q0, .inl (cI, 2048, .inl (fun _ => 0)))] H := hP
  have hD : va_D A [(h, .inr (5, [.int 0, .null, .null, .null, .int 0, .int 0, .int 0, .int 0, .int 0, .int 0, .int 0, .int 0, .int 0, .int 0, .int 0, .int 0, .null, .int 0, .int 0, .null, .null, .int 0, .int 0, .int 0])), (q0, .inl (cI, 2048, .inl (fun _ => 0)))] := hD
  refine va_putF (D := D) (ci := 5) (v := .ref q0) (ty := .array .int) (C := RX5) (T := TX5) (N := 24) hx hb hts (fun w h => List.mem_cons_of_mem _ (List.mem_append_right _ h)) tyX5 tyX5_ok nmX5 hown hK hP hD hS 0 rfl rfl 1 (by decide) (hts (.fieldLink RX5 7 "InvaderBoardModel" "rom" "[I") (by decide +kernel)) (fun _ h9 => h9) rfl hin rfl (by decide +kernel) rfl rfl (Nat.le_of_ble_eq_true rfl) dX5_init_10 (fun H locs hP hD hS => ?_)
  have hP : va_P D vwCl [(h, .inr (5, [.int 0, .ref q0, .null, .null, .int 0, .int 0, .int 0, .int 0, .int 0, .int 0, .int 0, .int 0, .int 0, .int 0, .int 0, .int 0, .null, .int 0, .int 0, .null, .null, .int 0, .int 0, .int 0])), (q0, .inl (cI, 2048, .inl (fun _ => 0)))] H := hP
  have hD : va_D A [(h, .inr (5, [.int 0, .ref q0, .null, .null, .int 0, .int 0, .int 0, .int 0, .int 0, .int 0, .int 0, .int 0, .int 0, .int 0, .int 0, .int 0, .null, .int 0, .int 0, .null, .null, .int 0, .int 0, .int 0])), (q0, .inl (cI, 2048, .inl (fun _ => 0)))] := hD
  refine lv_aload_n hx hb dX5_init_13 rfl (lv_at hl 0 rfl) ?_
  refine lv_sipush (v := 8192) hx hb dX5_init_14 (by decide) ?_
  refine k_newi (N := 8192) hx hb (hts (.arrayClass .int) (by decide +kernel)) hK hP hD hS hA rfl (by decide) (Nat.le_of_ble_eq_true rfl) (Nat.le_of_ble_eq_true rfl) dX5_init_17 (fun q1 H hP hD hS => ?_)
  have hP : va_P D vwCl [(h, .inr (5, [.int 0, .ref q0, .null, .null, .int 0, .int 0, .int 0, .int 0, .int 0, .int 0, .int 0, .int 0, .int 0, .int 0, .int 0, .int 0, .null, .int 0, .int 0, .null, .null, .int 0, .int 0, .int 0])), (q0, .inl (cI, 2048, .inl (fun _ => 0))), (q1, .inl (cI, 8192, .inl (fun _ => 0)))] H := hP
  have hD : va_D A [(h, .inr (5, [.int 0, .ref q0, .null, .null, .int 0, .int 0, .int 0, .int 0, .int 0, .int 0, .int 0, .int 0, .int 0, .int 0, .int 0, .int 0, .null, .int 0, .int 0, .null, .null, .int 0, .int 0, .int 0])), (q0, .inl (cI, 2048, .inl (fun _ => 0))), (q1, .inl (cI, 8192, .inl (fun _ => 0)))] := hD
  refine va_putF (D := D) (ci := 5) (v := .ref q1) (ty := .array .int) (C := RX5) (T := TX5) (N := 24) hx hb hts (fun w h => List.mem_cons_of_mem _ (List.mem_append_right _ h)) tyX5 tyX5_ok nmX5 hown hK hP hD hS 0 rfl rfl 2 (by decide) (hts (.fieldLink RX5 13 "InvaderBoardModel" "ram" "[I") (by decide +kernel)) (fun _ h9 => h9) rfl hin rfl (by decide +kernel) rfl rfl (Nat.le_of_ble_eq_true rfl) dX5_init_19 (fun H locs hP hD hS => ?_)
  have hP : va_P D vwCl [(h, .inr (5, [.int 0, .ref q0, .ref q1, .null, .int 0, .int 0, .int 0, .int 0, .int 0, .int 0, .int 0, .int 0, .int 0, .int 0, .int 0, .int 0, .null, .int 0, .int 0, .null, .null, .int 0, .int 0, .int 0])), (q0, .inl (cI, 2048, .inl (fun _ => 0))), (q1, .inl (cI, 8192, .inl (fun _ => 0)))] H := hP
  have hD : va_D A [(h, .inr (5, [.int 0, .ref q0, .ref q1, .null, .int 0, .int 0, .int 0, .int 0, .int 0, .int 0, .int 0, .int 0, .int 0, .int 0, .int 0, .int 0, .null, .int 0, .int 0, .null, .null, .int 0, .int 0, .int 0])), (q0, .inl (cI, 2048, .inl (fun _ => 0))), (q1, .inl (cI, 8192, .inl (fun _ => 0)))] := hD
  refine lv_aload_n hx hb dX5_init_22 rfl (lv_at hl 0 rfl) ?_
  refine lv_bipush (v := 8) hx hb dX5_init_23 (by decide) ?_
  refine k_newi (N := 8) hx hb (hts (.arrayClass .int) (by decide +kernel)) hK hP hD hS hA rfl (by decide) (Nat.le_of_ble_eq_true rfl) (Nat.le_of_ble_eq_true rfl) dX5_init_25 (fun q2 H hP hD hS => ?_)
  have hP : va_P D vwCl [(h, .inr (5, [.int 0, .ref q0, .ref q1, .null, .int 0, .int 0, .int 0, .int 0, .int 0, .int 0, .int 0, .int 0, .int 0, .int 0, .int 0, .int 0, .null, .int 0, .int 0, .null, .null, .int 0, .int 0, .int 0])), (q0, .inl (cI, 2048, .inl (fun _ => 0))), (q1, .inl (cI, 8192, .inl (fun _ => 0))), (q2, .inl (cI, 8, .inl (fun _ => 0)))] H := hP
  have hD : va_D A [(h, .inr (5, [.int 0, .ref q0, .ref q1, .null, .int 0, .int 0, .int 0, .int 0, .int 0, .int 0, .int 0, .int 0, .int 0, .int 0, .int 0, .int 0, .null, .int 0, .int 0, .null, .null, .int 0, .int 0, .int 0])), (q0, .inl (cI, 2048, .inl (fun _ => 0))), (q1, .inl (cI, 8192, .inl (fun _ => 0))), (q2, .inl (cI, 8, .inl (fun _ => 0)))] := hD
  refine va_putF (D := D) (ci := 5) (v := .ref q2) (ty := .array .int) (C := RX5) (T := TX5) (N := 24) hx hb hts (fun w h => List.mem_cons_of_mem _ (List.mem_append_right _ h)) tyX5 tyX5_ok nmX5 hown hK hP hD hS 0 rfl rfl 3 (by decide) (hts (.fieldLink RX5 16 "InvaderBoardModel" "reg" "[I") (by decide +kernel)) (fun _ h9 => h9) rfl hin rfl (by decide +kernel) rfl rfl (Nat.le_of_ble_eq_true rfl) dX5_init_27 (fun H locs hP hD hS => ?_)
  have hP : va_P D vwCl [(h, .inr (5, [.int 0, .ref q0, .ref q1, .ref q2, .int 0, .int 0, .int 0, .int 0, .int 0, .int 0, .int 0, .int 0, .int 0, .int 0, .int 0, .int 0, .null, .int 0, .int 0, .null, .null, .int 0, .int 0, .int 0])), (q0, .inl (cI, 2048, .inl (fun _ => 0))), (q1, .inl (cI, 8192, .inl (fun _ => 0))), (q2, .inl (cI, 8, .inl (fun _ => 0)))] H := hP
  have hD : va_D A [(h, .inr (5, [.int 0, .ref q0, .ref q1, .ref q2, .int 0, .int 0, .int 0, .int 0, .int 0, .int 0, .int 0, .int 0, .int 0, .int 0, .int 0, .int 0, .null, .int 0, .int 0, .null, .null, .int 0, .int 0, .int 0])), (q0, .inl (cI, 2048, .inl (fun _ => 0))), (q1, .inl (cI, 8192, .inl (fun _ => 0))), (q2, .inl (cI, 8, .inl (fun _ => 0)))] := hD
  refine lv_aload_n hx hb dX5_init_30 rfl (lv_at hl 0 rfl) ?_
  refine lv_iconst (v := 3) hx hb dX5_init_31 (by decide) ?_
  refine k_newi (N := 3) hx hb (hts (.arrayClass .int) (by decide +kernel)) hK hP hD hS hA rfl (by decide) (Nat.le_of_ble_eq_true rfl) (Nat.le_of_ble_eq_true rfl) dX5_init_32 (fun q3 H hP hD hS => ?_)
  have hP : va_P D vwCl [(h, .inr (5, [.int 0, .ref q0, .ref q1, .ref q2, .int 0, .int 0, .int 0, .int 0, .int 0, .int 0, .int 0, .int 0, .int 0, .int 0, .int 0, .int 0, .null, .int 0, .int 0, .null, .null, .int 0, .int 0, .int 0])), (q0, .inl (cI, 2048, .inl (fun _ => 0))), (q1, .inl (cI, 8192, .inl (fun _ => 0))), (q2, .inl (cI, 8, .inl (fun _ => 0))), (q3, .inl (cI, 3, .inl (fun _ => 0)))] H := hP
  have hD : va_D A [(h, .inr (5, [.int 0, .ref q0, .ref q1, .ref q2, .int 0, .int 0, .int 0, .int 0, .int 0, .int 0, .int 0, .int 0, .int 0, .int 0, .int 0, .int 0, .null, .int 0, .int 0, .null, .null, .int 0, .int 0, .int 0])), (q0, .inl (cI, 2048, .inl (fun _ => 0))), (q1, .inl (cI, 8192, .inl (fun _ => 0))), (q2, .inl (cI, 8, .inl (fun _ => 0))), (q3, .inl (cI, 3, .inl (fun _ => 0)))] := hD
  refine va_putF (D := D) (ci := 5) (v := .ref q3) (ty := .array .int) (C := RX5) (T := TX5) (N := 24) hx hb hts (fun w h => List.mem_cons_of_mem _ (List.mem_append_right _ h)) tyX5 tyX5_ok nmX5 hown hK hP hD hS 0 rfl rfl 16 (by decide) (hts (.fieldLink RX5 19 "InvaderBoardModel" "inputs" "[I") (by decide +kernel)) (fun _ h9 => h9) rfl hin rfl (by decide +kernel) rfl rfl (Nat.le_of_ble_eq_true rfl) dX5_init_34 (fun H locs hP hD hS => ?_)
  have hP : va_P D vwCl [(h, .inr (5, [.int 0, .ref q0, .ref q1, .ref q2, .int 0, .int 0, .int 0, .int 0, .int 0, .int 0, .int 0, .int 0, .int 0, .int 0, .int 0, .int 0, .ref q3, .int 0, .int 0, .null, .null, .int 0, .int 0, .int 0])), (q0, .inl (cI, 2048, .inl (fun _ => 0))), (q1, .inl (cI, 8192, .inl (fun _ => 0))), (q2, .inl (cI, 8, .inl (fun _ => 0))), (q3, .inl (cI, 3, .inl (fun _ => 0)))] H := hP
  have hD : va_D A [(h, .inr (5, [.int 0, .ref q0, .ref q1, .ref q2, .int 0, .int 0, .int 0, .int 0, .int 0, .int 0, .int 0, .int 0, .int 0, .int 0, .int 0, .int 0, .ref q3, .int 0, .int 0, .null, .null, .int 0, .int 0, .int 0])), (q0, .inl (cI, 2048, .inl (fun _ => 0))), (q1, .inl (cI, 8192, .inl (fun _ => 0))), (q2, .inl (cI, 8, .inl (fun _ => 0))), (q3, .inl (cI, 3, .inl (fun _ => 0)))] := hD
  refine lv_aload_n hx hb dX5_init_37 rfl (lv_at hl 0 rfl) ?_
  refine lv_iconst (v := 2) hx hb dX5_init_38 (by decide) ?_
  refine k_newi (N := 2) hx hb (hts (.arrayClass .int) (by decide +kernel)) hK hP hD hS hA rfl (by decide) (Nat.le_of_ble_eq_true rfl) (Nat.le_of_ble_eq_true rfl) dX5_init_39 (fun q4 H hP hD hS => ?_)
  have hP : va_P D vwCl [(h, .inr (5, [.int 0, .ref q0, .ref q1, .ref q2, .int 0, .int 0, .int 0, .int 0, .int 0, .int 0, .int 0, .int 0, .int 0, .int 0, .int 0, .int 0, .ref q3, .int 0, .int 0, .null, .null, .int 0, .int 0, .int 0])), (q0, .inl (cI, 2048, .inl (fun _ => 0))), (q1, .inl (cI, 8192, .inl (fun _ => 0))), (q2, .inl (cI, 8, .inl (fun _ => 0))), (q3, .inl (cI, 3, .inl (fun _ => 0))), (q4, .inl (cI, 2, .inl (fun _ => 0)))] H := hP
  have hD : va_D A [(h, .inr (5, [.int 0, .ref q0, .ref q1, .ref q2, .int 0, .int 0, .int 0, .int 0, .int 0, .int 0, .int 0, .int 0, .int 0, .int 0, .int 0, .int 0, .ref q3, .int 0, .int 0, .null, .null, .int 0, .int 0, .int 0])), (q0, .inl (cI, 2048, .inl (fun _ => 0))), (q1, .inl (cI, 8192, .inl (fun _ => 0))), (q2, .inl (cI, 8, .inl (fun _ => 0))), (q3, .inl (cI, 3, .inl (fun _ => 0))), (q4, .inl (cI, 2, .inl (fun _ => 0)))] := hD
  refine va_putF (D := D) (ci := 5) (v := .ref q4) (ty := .array .int) (C := RX5) (T := TX5) (N := 24) hx hb hts (fun w h => List.mem_cons_of_mem _ (List.mem_append_right _ h)) tyX5 tyX5_ok nmX5 hown hK hP hD hS 0 rfl rfl 19 (by decide) (hts (.fieldLink RX5 22 "InvaderBoardModel" "latch" "[I") (by decide +kernel)) (fun _ h9 => h9) rfl hin rfl (by decide +kernel) rfl rfl (Nat.le_of_ble_eq_true rfl) dX5_init_41 (fun H locs hP hD hS => ?_)
  have hP : va_P D vwCl [(h, .inr (5, [.int 0, .ref q0, .ref q1, .ref q2, .int 0, .int 0, .int 0, .int 0, .int 0, .int 0, .int 0, .int 0, .int 0, .int 0, .int 0, .int 0, .ref q3, .int 0, .int 0, .ref q4, .null, .int 0, .int 0, .int 0])), (q0, .inl (cI, 2048, .inl (fun _ => 0))), (q1, .inl (cI, 8192, .inl (fun _ => 0))), (q2, .inl (cI, 8, .inl (fun _ => 0))), (q3, .inl (cI, 3, .inl (fun _ => 0))), (q4, .inl (cI, 2, .inl (fun _ => 0)))] H := hP
  have hD : va_D A [(h, .inr (5, [.int 0, .ref q0, .ref q1, .ref q2, .int 0, .int 0, .int 0, .int 0, .int 0, .int 0, .int 0, .int 0, .int 0, .int 0, .int 0, .int 0, .ref q3, .int 0, .int 0, .ref q4, .null, .int 0, .int 0, .int 0])), (q0, .inl (cI, 2048, .inl (fun _ => 0))), (q1, .inl (cI, 8192, .inl (fun _ => 0))), (q2, .inl (cI, 8, .inl (fun _ => 0))), (q3, .inl (cI, 3, .inl (fun _ => 0))), (q4, .inl (cI, 2, .inl (fun _ => 0)))] := hD
  refine lv_aload_n hx hb dX5_init_44 rfl (lv_at hl 0 rfl) ?_
  refine lv_bipush (v := 16) hx hb dX5_init_45 (by decide) ?_
  refine k_newi (N := 16) hx hb (hts (.arrayClass .int) (by decide +kernel)) hK hP hD hS hA rfl (by decide) (Nat.le_of_ble_eq_true rfl) (Nat.le_of_ble_eq_true rfl) dX5_init_47 (fun q5 H hP hD hS => ?_)
  have hP : va_P D vwCl [(h, .inr (5, [.int 0, .ref q0, .ref q1, .ref q2, .int 0, .int 0, .int 0, .int 0, .int 0, .int 0, .int 0, .int 0, .int 0, .int 0, .int 0, .int 0, .ref q3, .int 0, .int 0, .ref q4, .null, .int 0, .int 0, .int 0])), (q0, .inl (cI, 2048, .inl (fun _ => 0))), (q1, .inl (cI, 8192, .inl (fun _ => 0))), (q2, .inl (cI, 8, .inl (fun _ => 0))), (q3, .inl (cI, 3, .inl (fun _ => 0))), (q4, .inl (cI, 2, .inl (fun _ => 0))), (q5, .inl (cI, 16, .inl (fun _ => 0)))] H := hP
  have hD : va_D A [(h, .inr (5, [.int 0, .ref q0, .ref q1, .ref q2, .int 0, .int 0, .int 0, .int 0, .int 0, .int 0, .int 0, .int 0, .int 0, .int 0, .int 0, .int 0, .ref q3, .int 0, .int 0, .ref q4, .null, .int 0, .int 0, .int 0])), (q0, .inl (cI, 2048, .inl (fun _ => 0))), (q1, .inl (cI, 8192, .inl (fun _ => 0))), (q2, .inl (cI, 8, .inl (fun _ => 0))), (q3, .inl (cI, 3, .inl (fun _ => 0))), (q4, .inl (cI, 2, .inl (fun _ => 0))), (q5, .inl (cI, 16, .inl (fun _ => 0)))] := hD
  refine va_putF (D := D) (ci := 5) (v := .ref q5) (ty := .array .int) (C := RX5) (T := TX5) (N := 24) hx hb hts (fun w h => List.mem_cons_of_mem _ (List.mem_append_right _ h)) tyX5 tyX5_ok nmX5 hown hK hP hD hS 0 rfl rfl 20 (by decide) (hts (.fieldLink RX5 25 "InvaderBoardModel" "edges" "[I") (by decide +kernel)) (fun _ h9 => h9) rfl hin rfl (by decide +kernel) rfl rfl (Nat.le_of_ble_eq_true rfl) dX5_init_49 (fun H locs hP hD hS => ?_)
  have hP : va_P D vwCl [(h, .inr (5, [.int 0, .ref q0, .ref q1, .ref q2, .int 0, .int 0, .int 0, .int 0, .int 0, .int 0, .int 0, .int 0, .int 0, .int 0, .int 0, .int 0, .ref q3, .int 0, .int 0, .ref q4, .ref q5, .int 0, .int 0, .int 0])), (q0, .inl (cI, 2048, .inl (fun _ => 0))), (q1, .inl (cI, 8192, .inl (fun _ => 0))), (q2, .inl (cI, 8, .inl (fun _ => 0))), (q3, .inl (cI, 3, .inl (fun _ => 0))), (q4, .inl (cI, 2, .inl (fun _ => 0))), (q5, .inl (cI, 16, .inl (fun _ => 0)))] H := hP
  have hD : va_D A [(h, .inr (5, [.int 0, .ref q0, .ref q1, .ref q2, .int 0, .int 0, .int 0, .int 0, .int 0, .int 0, .int 0, .int 0, .int 0, .int 0, .int 0, .int 0, .ref q3, .int 0, .int 0, .ref q4, .ref q5, .int 0, .int 0, .int 0])), (q0, .inl (cI, 2048, .inl (fun _ => 0))), (q1, .inl (cI, 8192, .inl (fun _ => 0))), (q2, .inl (cI, 8, .inl (fun _ => 0))), (q3, .inl (cI, 3, .inl (fun _ => 0))), (q4, .inl (cI, 2, .inl (fun _ => 0))), (q5, .inl (cI, 16, .inl (fun _ => 0)))] := hD
  exact KI.ret (cells := 6) (slots := 10269) (fun k => if k = 21 then q0 else if k = 22 then q1 else if k = 23 then q2 else if k = 24 then q3 else if k = 25 then q4 else q5) hx hb hr hlocks hK hP hD hS dX5_init_52
