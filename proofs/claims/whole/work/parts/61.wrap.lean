/-! THE LAW'S WRAPPERS: calls of methods that may throw, caught by the wrapper -/
section KLS
variable {p : Program} {l : Launch} {e : Env} {R : Room} {s : State} {m : MethodId} {args : Array Value} {below : List Frame} {meth : Method} {c : Code} {H : Heap} {locs : List Loc} {cells slots : Nat} {Q : State → Prop}
variable {D : va_G} {cI cL : ClassId} {A : Nat → Prop} {cc : ByteArray} {pc : Nat} {ls : Array Slot} {rest st0 : List Value} {tS : Nat} {sc : Nat → Nat}
/-- a call of a method that may throw: behind it either its world, or the world as it was and the thrown object -/
theorem KT.call {y : MethodName} {wsY Ts : List Cond} {d n index maxL nL : Nat} {own C : String} {bytes : ByteArray} {ret : Option FieldType} {b : Nat} {As : List Value} {ws wc w1 wr wt : va_W} {v : Option Value} {ci : Nat} {fs : List Value} {qc : vw_C} {thr : Prop} {E : String}
    (hM : KT l y wsY d tS sc (.ref b :: As) D cI wc thr E w1 v) (cw : CallW R s args own C index y bytes maxL ret wsY (rmX d) 1 6 n) (F : CallFix p m c cc nL s args Ts own)
    (hK : va_K D vwCl [(cI, .int)] s) (hP : va_P D vwCl ws H) (hD : va_D A ws) (hS : va_S A s.heap H locs) (hA : ∀ q, s.heap.size ≤ q → A q) (hG : sG tS sc A s s.heap)
    (hrc : wc[0]? = some (b, .inr (ci, fs))) (hcl : vwCl[ci]? = some qc) (hqC : qc.1 = C)
    (isC isR perm permX : List Nat) (hnC : va_nd isC = true) (hC : isC.map (fun i => ws[i]?) = wc.map some) (hR : isR.map (fun i => ws[i]?) = wr.map some) (hn : va_nd isR = true) (hdis : ∀ i ∈ isR, i ∉ isC) (hnp : va_nd perm = true) (hp : perm.map (fun i => (wr ++ w1)[i]?) = wt.map some)
    (hnX : va_nd permX = true) (hpX : permX.map (fun i => (wr ++ wc)[i]?) = ws.map some)
    (hAs : As.length = n) (hsz : ls.size = nL) (hst : st0 = As.reverse ++ .ref b :: rest) (hW : (rest.map fun v => v.category).sum ≤ 8) (hdg : decode cc pc = .ok (.invokevirtual index, 3)) (hf : cells + 1 ≤ R.cells ∧ slots + 6 ≤ R.slots)
    (kk : ¬ thr → ∀ (H1 : Heap) (locs1 : List Loc), va_P D vwCl wt H1 → va_D A wt → va_S A s.heap H1 locs1 → W p l e R s m args below meth c H1 locs1 (cells + 1) (slots + 6) Q (F0 m (pc + 3) ls (v.toList ++ rest)))
    (kx : thr → ∀ (H1 : Heap) (locs1 : List Loc) (q : Addr) (ce : Cell), va_P D vwCl ws H1 → va_D A ws → va_S A s.heap H1 locs1 → H1[q]? = some ce → ce.vm = .none → s.vm.findClass E = some ce.cls → vx_W p l e R s m args below meth c H1 locs1 (cells + 1) (slots + 6) Q (F0 m pc ls rest) q) :
    W p l e R s m args below meth c H locs cells slots Q (F0 m pc ls st0) := by
  subst hqC
  have hPc := hP.sub isC (k_fm hC)
  have hDc := hD.sub isC hnC hC
  have hFc := va_free hD hS hA isC hC
  have run := vx_runV (e := e) (below := below) (meth := meth) (locs := locs) (g := F0 m pc ls st0) (rest := rest) F (hM H.size) cw ⟨kg_blind, va_recv hK hPc hcl hrc, fun U hU hW => ⟨rfl, ⟨by rw [hU], by rw [hU]; exact hPc, va_K.moved hW.alike hK, hDc.weaken (fun _ _ _ _ => trivial)⟩, hG.at hS hFc hU hW⟩⟩ rfl hAs hsz hst (lv_room hW) hdg hf
  intro T hT X
  have out : ∀ (st₀ t T' : State) (L : List Loc), st₀.heap = H → T'.heap = t.heap → (∀ q ∈ L, va_A wc H.size q.base) → st₀.heap.size ≤ t.heap.size → (∀ q : Nat, q < st₀.heap.size → ¬ va_A wc H.size q → t.heap[q]? = st₀.heap[q]?) →
      (∀ q : Nat, q < H.size → ¬ va_A wc H.size q → T'.heap[q]? = H[q]?) ∧ va_S A s.heap T'.heap (locs ++ L) := by
    intro st₀ t T' L h0 e1 hL hz hk
    rw [h0] at hz hk
    refine ⟨fun q h1 h2 => by rw [e1]; exact hk q h1 h2, Nat.le_trans hS.1 (by rw [e1]; exact hz), fun q h1 h2 => by rw [e1, hk q (Nat.lt_of_lt_of_le h1 hS.1) (fun z => h2 (hFc q z))]; exact hS.2.1 q h1 h2, fun q hq => ?_⟩
    rcases List.mem_append.mp hq with h | h
    · exact hS.2.2 q h
    · exact hFc _ (hL q h)
  rcases run T hT X with ⟨v', st₀, t, T', L, h0, X', hL, e1, e2, ⟨ht, hv, ⟨hp1, hk', hd1⟩, hz, hk⟩, st⟩ | ⟨q, st₀, t, T', L, E', ce, h0, X', hL, e1, e2, ⟨u, ht, ⟨hE, hp1, hk', hd1⟩, hz, hk⟩, hce, hcv, hcl9, st⟩
  · cases hv
    obtain ⟨o1, o2⟩ := out st₀ t T' L h0 e1 hL hz hk
    rw [← e1] at hp1
    obtain ⟨hP2, hD2⟩ := va_join hP hD isC isR hC hR hn hdis o1 hFc hp1 hd1
    obtain ⟨t2, a1, b1⟩ := kk ht T'.heap (locs ++ L) (hP2.sub perm (k_fm hp)) (hD2.sub perm hnp hp) o2 T' rfl X'
    exact ⟨t2, st t2 a1, b1⟩
  · subst hE
    obtain ⟨o1, o2⟩ := out st₀ t T' L h0 e1 hL hz hk
    rw [← e1] at hp1 hce
    obtain ⟨hP2, hD2⟩ := va_join hP hD isC isR hC hR hn hdis o1 hFc hp1 hd1
    obtain ⟨t2, a1, b1⟩ := kx ht T'.heap (locs ++ L) q ce (hP2.sub permX (k_fm hpX)) (hD2.sub permX hnX hpX) o2 hce hcv hcl9 T' rfl X'
    exact ⟨t2, st.trans a1, b1⟩
end KLS
theorem vp_in01 : vp_in (0 : Int32) 1 := by
  unfold vp_in
  decide
def kl_ (D : va_G) (cI cL : ClassId) (tS : Nat) (sc : Nat → Nat) (wc : va_W) (sz : Nat) : State → Prop := fun U => kg_ D cI tS sc wc sz U ∧ va_K D vwCl [(cL, .long)] U
/-- a wrapper: it returns k, and its world is w1 -/
def KL (l : Launch) (y : MethodName) (ws : List Cond) (tS : Nat) (sc : Nat → Nat) (av : List Value) (D : va_G) (cI cL : ClassId) (wc w1 : va_W) (k : Int32) : Prop :=
  ∀ sz : Nat, vx_Met l y ws (rmX 8) (va_Pc av (kl_ D cI cL tS sc wc sz)) (kq_ D cI (some (.int k)) w1 (va_A wc sz)) (fun _ _ _ => False) 1 6 (va_A wc sz)
theorem kl_blind {D : va_G} {cI cL : ClassId} {tS : Nat} {sc : Nat → Nat} {ws : va_W} {sz : Nat} {av : List Value} : FrameBlind (va_Pc av (kl_ D cI cL tS sc ws sz)) :=
  fun a U g mk q => by
    obtain ⟨q0, ⟨⟨q1, qP, qK, qD⟩, qG⟩, qL⟩ := q
    exact ⟨q0, ⟨⟨q1, qP, va_K.moved (u := U) (U := U.calling g mk a) (Vm.Alike.refl U.vm) qK, qD⟩, sG.same (u := U) (U := U.calling g mk a) rfl qG⟩, va_K.moved (u := U) (U := U.calling g mk a) (Vm.Alike.refl U.vm) qL⟩
section KLT
variable {p : Program} {l : Launch} {e : Env} {R : Room} {s : State} {m : MethodId} {args : Array Value} {below : List Frame} {meth : Method} {c : Code} {H : Heap} {locs : List Loc} {cells slots : Nat} {Q : State → Prop}
variable {D : va_G} {cI cL : ClassId} {A : Nat → Prop} {cc : ByteArray} {pc : Nat} {ls : Array Slot} {rest st0 : List Value} {tS : Nat} {sc : Nat → Nat}
theorem KL.of {y : MethodName} {ws ws' : List Cond} {av : List Value} {wc w1 : va_W} {k : Int32} {maxL : Nat} {hh : List (Nat × Nat × Nat × Nat)} (hy : plainName y.cls = true) (hw : ws = Cond.codeWith y cc maxL (some .int) hh :: ws') (hlen : (lg_sl av).length ≤ maxL)
    (body : ∀ (p : Program) (e : Env) (s : State) (m : MethodId) (below : List Frame) (meth : Method) (c : Code) (A : Nat → Prop), p.tables.exec = Jvm.exec → c.code = cc → meth.sig.returnType = some .int → (∀ w ∈ ws, w.before av.toArray s = true) → s.vm.findClass y.cls = some m.cls → meth.locks = false → c.maxLocals = maxL → c.exceptionTable.toList = tableOf hh →
      va_K D vwCl [(cI, .int)] s → va_K D vwCl [(cL, .long)] s → va_P D vwCl wc s.heap → va_D A wc → va_S A s.heap s.heap [] → (∀ q : Nat, s.heap.size ≤ q → A q) → sG tS sc A s s.heap → ∀ ls : Array Slot, lv_has ls maxL (lv_args 0 av) →
      W p l e (rmX 8) s m av.toArray below meth c s.heap [] 0 0 (vx_MQ below (kq_ D cI (some (.int k)) w1 A) (fun _ _ _ => False) av.toArray s 1 6 A) (F0 m 0 ls [])) : KL l y ws tS sc av D cI cL wc w1 k := by
  intro sz
  refine vx_ofWH (cc := cc) (maxL := maxL) (ret := some .int) (hh := hh) hy hw ?_
  intro p e s m args below meth c s₁ B hml hv
  obtain ⟨rfl, ⟨⟨hsz, hP, hK, hD0⟩, hG⟩, hL⟩ := hv
  subst hsz
  have hts := atoms_spec (ws := ws) B.pre
  have hown : s.vm.findClass y.cls = some m.cls := findClass_of_methodNamed B.named
  have htab := vx_table (x := y) B (hts _ (by rw [hw]; exact List.mem_cons_self))
  have hl := lv_entry av (n := maxL) hlen
  rw [lg_entry_eq]
  exact body p e s m below meth c _ B.exec B.bytes B.returns hts hown B.notSynchronized hml htab hK hL hP hD0.self va_S.rf (fun q h => Or.inr h) hG _ hl
theorem KL.reti {w1 : va_W} {x : Int32} (hx : p.tables.exec = Jvm.exec) (hb : c.code = cc) (hr : meth.sig.returnType = some .int) (hlocks : meth.locks = false) (hK : va_K D vwCl [(cI, .int)] s) (hP : va_P D vwCl w1 H) (hD : va_D A w1) (hS : va_S A s.heap H locs)
    (hdg : decode cc pc = .ok (.ireturn, 1)) : W p l e R s m args below meth c H locs 1 6 (vx_MQ below (kq_ D cI (some (.int x)) w1 A) (fun _ _ _ => False) args s 1 6 A) (F0 m pc ls [.int x]) :=
  vx_ret (W.iret hx hb hr (fun t ht hW => ⟨rfl, ⟨by rw [ht]; exact hP, va_K.moved hW.alike hK, hD⟩, hS.F ht⟩) hS.2.2 hdg hlocks)
/-- a call of a wrapper -/
theorem KL.callS {y : MethodName} {wsY Ts : List Cond} {n index maxL nL : Nat} {own : String} {bytes : ByteArray} {ret : Option FieldType} {hh : List (Nat × Nat × Nat × Nat)} {As : List Value} {ws wc w1 wr wt : va_W} {k : Int32}
    (hM : KL l y wsY tS sc As D cI cL wc w1 k) (cw : vx_CSW R s args own index y bytes maxL ret hh wsY (rmX 8) 1 6 n) (F : CallFix p m c cc nL s args Ts own)
    (hK : va_K D vwCl [(cI, .int)] s) (hL : va_K D vwCl [(cL, .long)] s) (hP : va_P D vwCl ws H) (hD : va_D A ws) (hS : va_S A s.heap H locs) (hA : ∀ q, s.heap.size ≤ q → A q) (hG : sG tS sc A s s.heap)
    (isC isR perm : List Nat) (hnC : va_nd isC = true) (hC : isC.map (fun i => ws[i]?) = wc.map some) (hR : isR.map (fun i => ws[i]?) = wr.map some) (hn : va_nd isR = true) (hdis : ∀ i ∈ isR, i ∉ isC) (hnp : va_nd perm = true) (hp : perm.map (fun i => (wr ++ w1)[i]?) = wt.map some)
    (hAs : As.length = n) (hsz : ls.size = nL) (hst : st0 = As.reverse ++ rest) (hW : (rest.map fun v => v.category).sum ≤ 8) (hdg : decode cc pc = .ok (.invokestatic index, 3)) (hf : cells + 1 ≤ R.cells ∧ slots + 6 ≤ R.slots)
    (kk : ∀ (H1 : Heap) (locs1 : List Loc), va_P D vwCl wt H1 → va_D A wt → va_S A s.heap H1 locs1 → W p l e R s m args below meth c H1 locs1 (cells + 1) (slots + 6) Q (F0 m (pc + 3) ls (.int k :: rest))) :
    W p l e R s m args below meth c H locs cells slots Q (F0 m pc ls st0) := by
  have hPc := hP.sub isC (k_fm hC)
  have hDc := hD.sub isC hnC hC
  have hFc := va_free hD hS hA isC hC
  have run := vx_runSX (e := e) (below := below) (meth := meth) (locs := locs) (g := F0 m pc ls st0) (rest := rest) F (hM H.size) cw ⟨kl_blind, fun U hU hW => ⟨rfl, ⟨⟨by rw [hU], by rw [hU]; exact hPc, va_K.moved hW.alike hK, hDc.weaken (fun _ _ _ _ => trivial)⟩, hG.at hS hFc hU hW⟩, va_K.moved hW.alike hL⟩⟩ rfl hAs hsz hst (lv_room hW) hdg hf
  intro T hT X
  rcases run T hT X with ⟨v', st₀, t, T', L, h0, X', hL, e1, e2, ⟨hv, ⟨hp1, hk', hd1⟩, hz, hk⟩, st⟩ | ⟨q, st₀, t, T', L, E', ce, h0, X', hL, e1, e2, ht, _⟩
  · cases hv
    rw [h0] at hz hk
    rw [← e1] at hp1 hz hk
    obtain ⟨hP2, hD2⟩ := va_join hP hD isC isR hC hR hn hdis hk hFc hp1 hd1
    obtain ⟨t2, a1, b1⟩ := kk T'.heap (locs ++ L) (hP2.sub perm (k_fm hp)) (hD2.sub perm hnp hp)
      ⟨Nat.le_trans hS.1 hz, fun q h1 h2 => by rw [hk q (Nat.lt_of_lt_of_le h1 hS.1) (fun z => h2 (hFc q z))]; exact hS.2.1 q h1 h2, fun q hq => by
        rcases List.mem_append.mp hq with h | h
        · exact hS.2.2 q h
        · exact hFc _ (hL q h)⟩ T' rfl X'
    exact ⟨t2, st t2 a1, b1⟩
  · exact ht.elim
end KLT
set_option maxRecDepth 20000 in
theorem kL_load_t (l : Launch) (hl0 : l.stackTraces = false) (D : va_G) (cI cL : ClassId) (o : Nat → Nat) (tS : Nat) (sc : Nat → Nat) (ob : Nat) (w : Nat → Int64) (g : Nat → Int32) (f : Nat → Int32) (a : Nat → Nat → Int32) (p1 p2 p3 : Int32) (ht : xLoadX g f a p1 p2 p3 = true) : KL l yL_load wsL_load tS sc [.ref (o 10), .int p1, .int p2, .int p3, .ref ob] D cI cL (wX cI o g f a ++ [(ob, .inl (cL, 1, .inr (.inl w)))]) (wX cI o g f a ++ [(ob, .inl (cL, 1, .inr (.inl w)))]) 1 := by
  refine KL.of (cc := cL_load) (maxL := 6) (hh := [(0, 12, 15, 13)]) (by decide) rfl (Nat.le_of_ble_eq_true rfl) ?_
  intro p e s m below meth c A hx hb hr hts hown hlocks hml htab hK hL hP hD hS hA hG ls hl
  have hl : lv_has ls 6 [(0, .ref (o 10)), (1, .int p1), (2, .int p2), (3, .int p3), (4, .ref ob)] := hl
  have hown : s.vm.findClass RL = some m.cls := hown
  refine lv_aload hx hb dL_load_0 (lv_at hl 4 rfl) ?_
  refine lv_iconst (v := 0) hx hb dL_load_2 (by decide) ?_
  refine lv_aload_n hx hb dL_load_3 rfl (lv_at hl 0 rfl) ?_
  refine lv_iload_n hx hb dL_load_4 rfl (lv_at hl 1 rfl) ?_
  refine lv_iload_n hx hb dL_load_5 rfl (lv_at hl 2 rfl) ?_
  refine lv_iload_n hx hb dL_load_6 rfl (lv_at hl 3 rfl) ?_
  refine KT.call (C := RX4) (ci := 4) (rest := [.int 0, .ref ob]) (ws := wX cI o g f a ++ [(ob, .inl (cL, 1, .inr (.inl w)))]) (wt := wX cI o g f (ua a 0 ((xLoad g f a p1 p2 p3).2)) ++ [(ob, .inl (cL, 1, .inr (.inl w)))]) (kX4_load l hl0 D cI o tS sc g f a p1 p2 p3) (cwV 3 hts gL_load_X4_load rfl rfl rfl (by decide +kernel) ⟨Nat.le_of_ble_eq_true rfl, Nat.le_of_ble_eq_true rfl⟩) ⟨hx, hb, hml, hown, hts⟩ hK hP hD hS hA hG rfl rfl rfl [0, 1, 2, 3, 4, 5, 6, 7, 8, 9, 10] [11] [1, 2, 3, 4, 5, 6, 7, 8, 9, 10, 11, 0] [1, 2, 3, 4, 5, 6, 7, 8, 9, 10, 11, 0] (by decide) rfl (wr := [_]) rfl (by decide) (by decide) (by decide) rfl (by decide) rfl rfl hl.1 rfl (Nat.le_of_ble_eq_true rfl) dL_load_7 ⟨Nat.le_of_ble_eq_true rfl, Nat.le_of_ble_eq_true rfl⟩ (fun hn9 => ?_) (fun hy9 => ?_)
  · exact absurd ht hn9
  · intro H locs q ce hP hD hS hq hv hcl
    refine vc_catch (own := RL) (name := "java/lang/IllegalArgumentException") (E := "java/lang/IllegalArgumentException") hown ⟨0, 12, 15, 13⟩ htab (by decide) (by decide) (hts (.classLink RL 13 "java/lang/IllegalArgumentException") (List.mem_of_getElem? (i := 1) rfl)) (va_Nw.use rfl hG.2.2.2.2.1) hq hv hcl ?_
    refine lv_astore (lv' := [(5, .ref q), (0, .ref (o 10)), (1, .int p1), (2, .int p2), (3, .int p3), (4, .ref ob)]) hx hb dL_load_15 hl (by decide) rfl (fun ls hl => ?_)
    refine lv_iconst (v := 1) hx hb dL_load_17 (by decide) ?_
    exact KL.reti hx hb hr hlocks hK hP hD hS dL_load_18
set_option maxRecDepth 20000 in
theorem kL_load_f (l : Launch) (hl0 : l.stackTraces = false) (D : va_G) (cI cL : ClassId) (o : Nat → Nat) (tS : Nat) (sc : Nat → Nat) (ob : Nat) (w : Nat → Int64) (g : Nat → Int32) (f : Nat → Int32) (a : Nat → Nat → Int32) (p1 p2 p3 : Int32) (ht : xLoadX g f a p1 p2 p3 = false) : KL l yL_load wsL_load tS sc [.ref (o 10), .int p1, .int p2, .int p3, .ref ob] D cI cL (wX cI o g f a ++ [(ob, .inl (cL, 1, .inr (.inl w)))]) (wX cI o g f (ua a 0 ((xLoad g f a p1 p2 p3).2)) ++ [(ob, .inl (cL, 1, .inr (.inl (vp_updL w (0 : Int32).toNatClampNeg ((xLoad g f a p1 p2 p3).1).toInt64))))]) 0 := by
  refine KL.of (cc := cL_load) (maxL := 6) (hh := [(0, 12, 15, 13)]) (by decide) rfl (Nat.le_of_ble_eq_true rfl) ?_
  intro p e s m below meth c A hx hb hr hts hown hlocks hml htab hK hL hP hD hS hA hG ls hl
  have hl : lv_has ls 6 [(0, .ref (o 10)), (1, .int p1), (2, .int p2), (3, .int p3), (4, .ref ob)] := hl
  have hown : s.vm.findClass RL = some m.cls := hown
  refine lv_aload hx hb dL_load_0 (lv_at hl 4 rfl) ?_
  refine lv_iconst (v := 0) hx hb dL_load_2 (by decide) ?_
  refine lv_aload_n hx hb dL_load_3 rfl (lv_at hl 0 rfl) ?_
  refine lv_iload_n hx hb dL_load_4 rfl (lv_at hl 1 rfl) ?_
  refine lv_iload_n hx hb dL_load_5 rfl (lv_at hl 2 rfl) ?_
  refine lv_iload_n hx hb dL_load_6 rfl (lv_at hl 3 rfl) ?_
  refine KT.call (C := RX4) (ci := 4) (rest := [.int 0, .ref ob]) (ws := wX cI o g f a ++ [(ob, .inl (cL, 1, .inr (.inl w)))]) (wt := wX cI o g f (ua a 0 ((xLoad g f a p1 p2 p3).2)) ++ [(ob, .inl (cL, 1, .inr (.inl w)))]) (kX4_load l hl0 D cI o tS sc g f a p1 p2 p3) (cwV 3 hts gL_load_X4_load rfl rfl rfl (by decide +kernel) ⟨Nat.le_of_ble_eq_true rfl, Nat.le_of_ble_eq_true rfl⟩) ⟨hx, hb, hml, hown, hts⟩ hK hP hD hS hA hG rfl rfl rfl [0, 1, 2, 3, 4, 5, 6, 7, 8, 9, 10] [11] [1, 2, 3, 4, 5, 6, 7, 8, 9, 10, 11, 0] [1, 2, 3, 4, 5, 6, 7, 8, 9, 10, 11, 0] (by decide) rfl (wr := [_]) rfl (by decide) (by decide) (by decide) rfl (by decide) rfl rfl hl.1 rfl (Nat.le_of_ble_eq_true rfl) dL_load_7 ⟨Nat.le_of_ble_eq_true rfl, Nat.le_of_ble_eq_true rfl⟩ (fun hn9 => ?_) (fun hy9 => ?_)
  · intro H locs hP hD hS
    refine lv_i2l hx hb dL_load_10 rfl ?_
    refine va_last (tys := [(cL, .long)]) hx hb hL hP hD hS 11 0 rfl rfl vp_in01 dL_load_11 (fun H locs hP hD hS => ?_)
    have hP : va_P D vwCl (wX cI o g f (ua a 0 ((xLoad g f a p1 p2 p3).2)) ++ [(ob, .inl (cL, 1, .inr (.inl (vp_updL w (0 : Int32).toNatClampNeg ((xLoad g f a p1 p2 p3).1).toInt64))))]) H := hP
    have hD : va_D A (wX cI o g f (ua a 0 ((xLoad g f a p1 p2 p3).2)) ++ [(ob, .inl (cL, 1, .inr (.inl (vp_updL w (0 : Int32).toNatClampNeg ((xLoad g f a p1 p2 p3).1).toInt64))))]) := hD
    refine lv_goto (tgt := 19) hx hb dL_load_12 (by decide) ?_
    refine lv_iconst (v := 0) hx hb dL_load_19 (by decide) ?_
    exact KL.reti hx hb hr hlocks hK hP hD hS dL_load_20
  · exact absurd (hy9.symm.trans ht) (by decide)
set_option maxRecDepth 20000 in
theorem kL_input_t (l : Launch) (hl0 : l.stackTraces = false) (D : va_G) (cI cL : ClassId) (o : Nat → Nat) (tS : Nat) (sc : Nat → Nat) (g : Nat → Int32) (f : Nat → Int32) (a : Nat → Nat → Int32) (p1 p2 : Int32) (ht : xInputX g f a p1 p2 = true) : KL l yL_input wsL_input tS sc [.ref (o 10), .int p1, .int p2] D cI cL (wX cI o g f a) (wX cI o g f a) 1 := by
  refine KL.of (cc := cL_input) (maxL := 4) (hh := [(0, 6, 9, 13)]) (by decide) rfl (Nat.le_of_ble_eq_true rfl) ?_
  intro p e s m below meth c A hx hb hr hts hown hlocks hml htab hK hL hP hD hS hA hG ls hl
  have hl : lv_has ls 4 [(0, .ref (o 10)), (1, .int p1), (2, .int p2)] := hl
  have hown : s.vm.findClass RL = some m.cls := hown
  refine lv_aload_n hx hb dL_input_0 rfl (lv_at hl 0 rfl) ?_
  refine lv_iload_n hx hb dL_input_1 rfl (lv_at hl 1 rfl) ?_
  refine lv_iload_n hx hb dL_input_2 rfl (lv_at hl 2 rfl) ?_
  refine KT.call (C := RX4) (ci := 4) (rest := []) (ws := wX cI o g f a) (wt := wX cI o g f (ua a 3 (xInput g f a p1 p2))) (kX4_input l hl0 D cI o tS sc g f a p1 p2) (cwV 2 hts gL_input_X4_input rfl rfl rfl (by decide +kernel) ⟨Nat.le_of_ble_eq_true rfl, Nat.le_of_ble_eq_true rfl⟩) ⟨hx, hb, hml, hown, hts⟩ hK hP hD hS hA hG rfl rfl rfl [0, 1, 2, 3, 4, 5, 6, 7, 8, 9, 10] [] [0, 1, 2, 3, 4, 5, 6, 7, 8, 9, 10] [0, 1, 2, 3, 4, 5, 6, 7, 8, 9, 10] (by decide) rfl (wr := []) rfl (by decide) (by decide) (by decide) rfl (by decide) rfl rfl hl.1 rfl (Nat.le_of_ble_eq_true rfl) dL_input_3 ⟨Nat.le_of_ble_eq_true rfl, Nat.le_of_ble_eq_true rfl⟩ (fun hn9 => ?_) (fun hy9 => ?_)
  · exact absurd ht hn9
  · intro H locs q ce hP hD hS hq hv hcl
    refine vc_catch (own := RL) (name := "java/lang/IllegalArgumentException") (E := "java/lang/IllegalArgumentException") hown ⟨0, 6, 9, 13⟩ htab (by decide) (by decide) (hts (.classLink RL 13 "java/lang/IllegalArgumentException") (List.mem_of_getElem? (i := 1) rfl)) (va_Nw.use rfl hG.2.2.2.2.1) hq hv hcl ?_
    refine lv_astore_n (lv' := [(3, .ref q), (0, .ref (o 10)), (1, .int p1), (2, .int p2)]) hx hb dL_input_9 rfl hl (by decide) rfl (fun ls hl => ?_)
    refine lv_iconst (v := 1) hx hb dL_input_10 (by decide) ?_
    exact KL.reti hx hb hr hlocks hK hP hD hS dL_input_11
set_option maxRecDepth 20000 in
theorem kL_input_f (l : Launch) (hl0 : l.stackTraces = false) (D : va_G) (cI cL : ClassId) (o : Nat → Nat) (tS : Nat) (sc : Nat → Nat) (g : Nat → Int32) (f : Nat → Int32) (a : Nat → Nat → Int32) (p1 p2 : Int32) (ht : xInputX g f a p1 p2 = false) : KL l yL_input wsL_input tS sc [.ref (o 10), .int p1, .int p2] D cI cL (wX cI o g f a) (wX cI o g f (ua a 3 (xInput g f a p1 p2))) 0 := by
  refine KL.of (cc := cL_input) (maxL := 4) (hh := [(0, 6, 9, 13)]) (by decide) rfl (Nat.le_of_ble_eq_true rfl) ?_
  intro p e s m below meth c A hx hb hr hts hown hlocks hml htab hK hL hP hD hS hA hG ls hl
  have hl : lv_has ls 4 [(0, .ref (o 10)), (1, .int p1), (2, .int p2)] := hl
  have hown : s.vm.findClass RL = some m.cls := hown
  refine lv_aload_n hx hb dL_input_0 rfl (lv_at hl 0 rfl) ?_
  refine lv_iload_n hx hb dL_input_1 rfl (lv_at hl 1 rfl) ?_
  refine lv_iload_n hx hb dL_input_2 rfl (lv_at hl 2 rfl) ?_
  refine KT.call (C := RX4) (ci := 4) (rest := []) (ws := wX cI o g f a) (wt := wX cI o g f (ua a 3 (xInput g f a p1 p2))) (kX4_input l hl0 D cI o tS sc g f a p1 p2) (cwV 2 hts gL_input_X4_input rfl rfl rfl (by decide +kernel) ⟨Nat.le_of_ble_eq_true rfl, Nat.le_of_ble_eq_true rfl⟩) ⟨hx, hb, hml, hown, hts⟩ hK hP hD hS hA hG rfl rfl rfl [0, 1, 2, 3, 4, 5, 6, 7, 8, 9, 10] [] [0, 1, 2, 3, 4, 5, 6, 7, 8, 9, 10] [0, 1, 2, 3, 4, 5, 6, 7, 8, 9, 10] (by decide) rfl (wr := []) rfl (by decide) (by decide) (by decide) rfl (by decide) rfl rfl hl.1 rfl (Nat.le_of_ble_eq_true rfl) dL_input_3 ⟨Nat.le_of_ble_eq_true rfl, Nat.le_of_ble_eq_true rfl⟩ (fun hn9 => ?_) (fun hy9 => ?_)
  · intro H locs hP hD hS
    refine lv_goto (tgt := 12) hx hb dL_input_6 (by decide) ?_
    refine lv_iconst (v := 0) hx hb dL_input_12 (by decide) ?_
    exact KL.reti hx hb hr hlocks hK hP hD hS dL_input_13
  · exact absurd (hy9.symm.trans ht) (by decide)
set_option maxRecDepth 20000 in
theorem kL_run_t (l : Launch) (hl0 : l.stackTraces = false) (D : va_G) (cI cL : ClassId) (o : Nat → Nat) (tS : Nat) (sc : Nat → Nat) (ob : Nat) (w : Nat → Int64) (g : Nat → Int32) (f : Nat → Int32) (a : Nat → Nat → Int32) (p1 : Int32) (ht : xRunX g f a p1 = true) : KL l yL_run wsL_run tS sc [.ref (o 10), .int p1, .ref ob] D cI cL (wX cI o g f a ++ [(ob, .inl (cL, 1, .inr (.inl w)))]) (wX cI o g f a ++ [(ob, .inl (cL, 1, .inr (.inl w)))]) 1 := by
  refine KL.of (cc := cL_run) (maxL := 4) (hh := [(0, 9, 12, 13)]) (by decide) rfl (Nat.le_of_ble_eq_true rfl) ?_
  intro p e s m below meth c A hx hb hr hts hown hlocks hml htab hK hL hP hD hS hA hG ls hl
  have hl : lv_has ls 4 [(0, .ref (o 10)), (1, .int p1), (2, .ref ob)] := hl
  have hown : s.vm.findClass RL = some m.cls := hown
  refine lv_aload_n hx hb dL_run_0 rfl (lv_at hl 2 rfl) ?_
  refine lv_iconst (v := 0) hx hb dL_run_1 (by decide) ?_
  refine lv_aload_n hx hb dL_run_2 rfl (lv_at hl 0 rfl) ?_
  refine lv_iload_n hx hb dL_run_3 rfl (lv_at hl 1 rfl) ?_
  refine KT.call (C := RX4) (ci := 4) (rest := [.int 0, .ref ob]) (ws := wX cI o g f a ++ [(ob, .inl (cL, 1, .inr (.inl w)))]) (wt := wX cI o ((xRun g f a p1).2.1) ((xRun g f a p1).2.2.1) ((xRun g f a p1).2.2.2) ++ [(ob, .inl (cL, 1, .inr (.inl w)))]) (kX4_run l hl0 D cI o tS sc g f a p1) (cwV 1 hts gL_run_X4_run rfl rfl rfl (by decide +kernel) ⟨Nat.le_of_ble_eq_true rfl, Nat.le_of_ble_eq_true rfl⟩) ⟨hx, hb, hml, hown, hts⟩ hK hP hD hS hA hG rfl rfl rfl [0, 1, 2, 3, 4, 5, 6, 7, 8, 9, 10] [11] [1, 2, 3, 4, 5, 6, 7, 8, 9, 10, 11, 0] [1, 2, 3, 4, 5, 6, 7, 8, 9, 10, 11, 0] (by decide) rfl (wr := [_]) rfl (by decide) (by decide) (by decide) rfl (by decide) rfl rfl hl.1 rfl (Nat.le_of_ble_eq_true rfl) dL_run_4 ⟨Nat.le_of_ble_eq_true rfl, Nat.le_of_ble_eq_true rfl⟩ (fun hn9 => ?_) (fun hy9 => ?_)
  · exact absurd ht hn9
  · intro H locs q ce hP hD hS hq hv hcl
    refine vc_catch (own := RL) (name := "java/lang/IllegalArgumentException") (E := "java/lang/IllegalArgumentException") hown ⟨0, 9, 12, 13⟩ htab (by decide) (by decide) (hts (.classLink RL 13 "java/lang/IllegalArgumentException") (List.mem_of_getElem? (i := 1) rfl)) (va_Nw.use rfl hG.2.2.2.2.1) hq hv hcl ?_
    refine lv_astore_n (lv' := [(3, .ref q), (0, .ref (o 10)), (1, .int p1), (2, .ref ob)]) hx hb dL_run_12 rfl hl (by decide) rfl (fun ls hl => ?_)
    refine lv_iconst (v := 1) hx hb dL_run_13 (by decide) ?_
    exact KL.reti hx hb hr hlocks hK hP hD hS dL_run_14
set_option maxRecDepth 20000 in
theorem kL_run_f (l : Launch) (hl0 : l.stackTraces = false) (D : va_G) (cI cL : ClassId) (o : Nat → Nat) (tS : Nat) (sc : Nat → Nat) (ob : Nat) (w : Nat → Int64) (g : Nat → Int32) (f : Nat → Int32) (a : Nat → Nat → Int32) (p1 : Int32) (ht : xRunX g f a p1 = false) : KL l yL_run wsL_run tS sc [.ref (o 10), .int p1, .ref ob] D cI cL (wX cI o g f a ++ [(ob, .inl (cL, 1, .inr (.inl w)))]) (wX cI o ((xRun g f a p1).2.1) ((xRun g f a p1).2.2.1) ((xRun g f a p1).2.2.2) ++ [(ob, .inl (cL, 1, .inr (.inl (vp_updL w (0 : Int32).toNatClampNeg ((xRun g f a p1).1).toInt64))))]) 0 := by
  refine KL.of (cc := cL_run) (maxL := 4) (hh := [(0, 9, 12, 13)]) (by decide) rfl (Nat.le_of_ble_eq_true rfl) ?_
  intro p e s m below meth c A hx hb hr hts hown hlocks hml htab hK hL hP hD hS hA hG ls hl
  have hl : lv_has ls 4 [(0, .ref (o 10)), (1, .int p1), (2, .ref ob)] := hl
  have hown : s.vm.findClass RL = some m.cls := hown
  refine lv_aload_n hx hb dL_run_0 rfl (lv_at hl 2 rfl) ?_
  refine lv_iconst (v := 0) hx hb dL_run_1 (by decide) ?_
  refine lv_aload_n hx hb dL_run_2 rfl (lv_at hl 0 rfl) ?_
  refine lv_iload_n hx hb dL_run_3 rfl (lv_at hl 1 rfl) ?_
  refine KT.call (C := RX4) (ci := 4) (rest := [.int 0, .ref ob]) (ws := wX cI o g f a ++ [(ob, .inl (cL, 1, .inr (.inl w)))]) (wt := wX cI o ((xRun g f a p1).2.1) ((xRun g f a p1).2.2.1) ((xRun g f a p1).2.2.2) ++ [(ob, .inl (cL, 1, .inr (.inl w)))]) (kX4_run l hl0 D cI o tS sc g f a p1) (cwV 1 hts gL_run_X4_run rfl rfl rfl (by decide +kernel) ⟨Nat.le_of_ble_eq_true rfl, Nat.le_of_ble_eq_true rfl⟩) ⟨hx, hb, hml, hown, hts⟩ hK hP hD hS hA hG rfl rfl rfl [0, 1, 2, 3, 4, 5, 6, 7, 8, 9, 10] [11] [1, 2, 3, 4, 5, 6, 7, 8, 9, 10, 11, 0] [1, 2, 3, 4, 5, 6, 7, 8, 9, 10, 11, 0] (by decide) rfl (wr := [_]) rfl (by decide) (by decide) (by decide) rfl (by decide) rfl rfl hl.1 rfl (Nat.le_of_ble_eq_true rfl) dL_run_4 ⟨Nat.le_of_ble_eq_true rfl, Nat.le_of_ble_eq_true rfl⟩ (fun hn9 => ?_) (fun hy9 => ?_)
  · intro H locs hP hD hS
    refine lv_i2l hx hb dL_run_7 rfl ?_
    refine va_last (tys := [(cL, .long)]) hx hb hL hP hD hS 11 0 rfl rfl vp_in01 dL_run_8 (fun H locs hP hD hS => ?_)
    have hP : va_P D vwCl (wX cI o ((xRun g f a p1).2.1) ((xRun g f a p1).2.2.1) ((xRun g f a p1).2.2.2) ++ [(ob, .inl (cL, 1, .inr (.inl (vp_updL w (0 : Int32).toNatClampNeg ((xRun g f a p1).1).toInt64))))]) H := hP
    have hD : va_D A (wX cI o ((xRun g f a p1).2.1) ((xRun g f a p1).2.2.1) ((xRun g f a p1).2.2.2) ++ [(ob, .inl (cL, 1, .inr (.inl (vp_updL w (0 : Int32).toNatClampNeg ((xRun g f a p1).1).toInt64))))]) := hD
    refine lv_goto (tgt := 15) hx hb dL_run_9 (by decide) ?_
    refine lv_iconst (v := 0) hx hb dL_run_15 (by decide) ?_
    exact KL.reti hx hb hr hlocks hK hP hD hS dL_run_16
  · exact absurd (hy9.symm.trans ht) (by decide)
set_option maxRecDepth 20000 in
theorem kL_register_t (l : Launch) (hl0 : l.stackTraces = false) (D : va_G) (cI cL : ClassId) (o : Nat → Nat) (tS : Nat) (sc : Nat → Nat) (ob : Nat) (w : Nat → Int64) (g : Nat → Int32) (f : Nat → Int32) (a : Nat → Nat → Int32) (p1 : Int32) (ht : xRegisterX g f a p1 = true) : KL l yL_register wsL_register tS sc [.ref (o 10), .int p1, .ref ob] D cI cL (wX cI o g f a ++ [(ob, .inl (cL, 1, .inr (.inl w)))]) (wX cI o g f a ++ [(ob, .inl (cL, 1, .inr (.inl w)))]) 1 := by
  refine KL.of (cc := cL_register) (maxL := 4) (hh := [(0, 9, 12, 13)]) (by decide) rfl (Nat.le_of_ble_eq_true rfl) ?_
  intro p e s m below meth c A hx hb hr hts hown hlocks hml htab hK hL hP hD hS hA hG ls hl
  have hl : lv_has ls 4 [(0, .ref (o 10)), (1, .int p1), (2, .ref ob)] := hl
  have hown : s.vm.findClass RL = some m.cls := hown
  refine lv_aload_n hx hb dL_register_0 rfl (lv_at hl 2 rfl) ?_
  refine lv_iconst (v := 0) hx hb dL_register_1 (by decide) ?_
  refine lv_aload_n hx hb dL_register_2 rfl (lv_at hl 0 rfl) ?_
  refine lv_iload_n hx hb dL_register_3 rfl (lv_at hl 1 rfl) ?_
  refine KT.call (C := RX4) (ci := 4) (rest := [.int 0, .ref ob]) (ws := wX cI o g f a ++ [(ob, .inl (cL, 1, .inr (.inl w)))]) (wt := wX cI o g f a ++ [(ob, .inl (cL, 1, .inr (.inl w)))]) (kX4_register l hl0 D cI o tS sc g f a p1) (cwV 1 hts gL_register_X4_register rfl rfl rfl (by decide +kernel) ⟨Nat.le_of_ble_eq_true rfl, Nat.le_of_ble_eq_true rfl⟩) ⟨hx, hb, hml, hown, hts⟩ hK hP hD hS hA hG rfl rfl rfl [0, 1, 2, 3, 4, 5, 6, 7, 8, 9, 10] [11] [1, 2, 3, 4, 5, 6, 7, 8, 9, 10, 11, 0] [1, 2, 3, 4, 5, 6, 7, 8, 9, 10, 11, 0] (by decide) rfl (wr := [_]) rfl (by decide) (by decide) (by decide) rfl (by decide) rfl rfl hl.1 rfl (Nat.le_of_ble_eq_true rfl) dL_register_4 ⟨Nat.le_of_ble_eq_true rfl, Nat.le_of_ble_eq_true rfl⟩ (fun hn9 => ?_) (fun hy9 => ?_)
  · exact absurd ht hn9
  · intro H locs q ce hP hD hS hq hv hcl
    refine vc_catch (own := RL) (name := "java/lang/IllegalArgumentException") (E := "java/lang/IllegalArgumentException") hown ⟨0, 9, 12, 13⟩ htab (by decide) (by decide) (hts (.classLink RL 13 "java/lang/IllegalArgumentException") (List.mem_of_getElem? (i := 1) rfl)) (va_Nw.use rfl hG.2.2.2.2.1) hq hv hcl ?_
    refine lv_astore_n (lv' := [(3, .ref q), (0, .ref (o 10)), (1, .int p1), (2, .ref ob)]) hx hb dL_register_12 rfl hl (by decide) rfl (fun ls hl => ?_)
    refine lv_iconst (v := 1) hx hb dL_register_13 (by decide) ?_
    exact KL.reti hx hb hr hlocks hK hP hD hS dL_register_14
set_option maxRecDepth 20000 in
theorem kL_register_f (l : Launch) (hl0 : l.stackTraces = false) (D : va_G) (cI cL : ClassId) (o : Nat → Nat) (tS : Nat) (sc : Nat → Nat) (ob : Nat) (w : Nat → Int64) (g : Nat → Int32) (f : Nat → Int32) (a : Nat → Nat → Int32) (p1 : Int32) (ht : xRegisterX g f a p1 = false) : KL l yL_register wsL_register tS sc [.ref (o 10), .int p1, .ref ob] D cI cL (wX cI o g f a ++ [(ob, .inl (cL, 1, .inr (.inl w)))]) (wX cI o g f a ++ [(ob, .inl (cL, 1, .inr (.inl (vp_updL w (0 : Int32).toNatClampNeg ((xRegister g f a p1)).toInt64))))]) 0 := by
  refine KL.of (cc := cL_register) (maxL := 4) (hh := [(0, 9, 12, 13)]) (by decide) rfl (Nat.le_of_ble_eq_true rfl) ?_
  intro p e s m below meth c A hx hb hr hts hown hlocks hml htab hK hL hP hD hS hA hG ls hl
  have hl : lv_has ls 4 [(0, .ref (o 10)), (1, .int p1), (2, .ref ob)] := hl
  have hown : s.vm.findClass RL = some m.cls := hown
  refine lv_aload_n hx hb dL_register_0 rfl (lv_at hl 2 rfl) ?_
  refine lv_iconst (v := 0) hx hb dL_register_1 (by decide) ?_
  refine lv_aload_n hx hb dL_register_2 rfl (lv_at hl 0 rfl) ?_
  refine lv_iload_n hx hb dL_register_3 rfl (lv_at hl 1 rfl) ?_
  refine KT.call (C := RX4) (ci := 4) (rest := [.int 0, .ref ob]) (ws := wX cI o g f a ++ [(ob, .inl (cL, 1, .inr (.inl w)))]) (wt := wX cI o g f a ++ [(ob, .inl (cL, 1, .inr (.inl w)))]) (kX4_register l hl0 D cI o tS sc g f a p1) (cwV 1 hts gL_register_X4_register rfl rfl rfl (by decide +kernel) ⟨Nat.le_of_ble_eq_true rfl, Nat.le_of_ble_eq_true rfl⟩) ⟨hx, hb, hml, hown, hts⟩ hK hP hD hS hA hG rfl rfl rfl [0, 1, 2, 3, 4, 5, 6, 7, 8, 9, 10] [11] [1, 2, 3, 4, 5, 6, 7, 8, 9, 10, 11, 0] [1, 2, 3, 4, 5, 6, 7, 8, 9, 10, 11, 0] (by decide) rfl (wr := [_]) rfl (by decide) (by decide) (by decide) rfl (by decide) rfl rfl hl.1 rfl (Nat.le_of_ble_eq_true rfl) dL_register_4 ⟨Nat.le_of_ble_eq_true rfl, Nat.le_of_ble_eq_true rfl⟩ (fun hn9 => ?_) (fun hy9 => ?_)
  · intro H locs hP hD hS
    refine lv_i2l hx hb dL_register_7 rfl ?_
    refine va_last (tys := [(cL, .long)]) hx hb hL hP hD hS 11 0 rfl rfl vp_in01 dL_register_8 (fun H locs hP hD hS => ?_)
    have hP : va_P D vwCl (wX cI o g f a ++ [(ob, .inl (cL, 1, .inr (.inl (vp_updL w (0 : Int32).toNatClampNeg ((xRegister g f a p1)).toInt64))))]) H := hP
    have hD : va_D A (wX cI o g f a ++ [(ob, .inl (cL, 1, .inr (.inl (vp_updL w (0 : Int32).toNatClampNeg ((xRegister g f a p1)).toInt64))))]) := hD
    refine lv_goto (tgt := 15) hx hb dL_register_9 (by decide) ?_
    refine lv_iconst (v := 0) hx hb dL_register_15 (by decide) ?_
    exact KL.reti hx hb hr hlocks hK hP hD hS dL_register_16
  · exact absurd (hy9.symm.trans ht) (by decide)
set_option maxRecDepth 20000 in
theorem kL_dot_t (l : Launch) (hl0 : l.stackTraces = false) (D : va_G) (cI cL : ClassId) (o : Nat → Nat) (tS : Nat) (sc : Nat → Nat) (ob : Nat) (w : Nat → Int64) (g : Nat → Int32) (f : Nat → Int32) (a : Nat → Nat → Int32) (p1 p2 : Int32) (ht : xDotX g f a p1 p2 = true) : KL l yL_dot wsL_dot tS sc [.ref (o 10), .int p1, .int p2, .ref ob] D cI cL (wX cI o g f a ++ [(ob, .inl (cL, 1, .inr (.inl w)))]) (wX cI o g f a ++ [(ob, .inl (cL, 1, .inr (.inl w)))]) 1 := by
  refine KL.of (cc := cL_dot) (maxL := 5) (hh := [(0, 10, 13, 30)]) (by decide) rfl (Nat.le_of_ble_eq_true rfl) ?_
  intro p e s m below meth c A hx hb hr hts hown hlocks hml htab hK hL hP hD hS hA hG ls hl
  have hl : lv_has ls 5 [(0, .ref (o 10)), (1, .int p1), (2, .int p2), (3, .ref ob)] := hl
  have hown : s.vm.findClass RL = some m.cls := hown
  refine lv_aload_n hx hb dL_dot_0 rfl (lv_at hl 3 rfl) ?_
  refine lv_iconst (v := 0) hx hb dL_dot_1 (by decide) ?_
  refine lv_aload_n hx hb dL_dot_2 rfl (lv_at hl 0 rfl) ?_
  refine lv_iload_n hx hb dL_dot_3 rfl (lv_at hl 1 rfl) ?_
  refine lv_iload_n hx hb dL_dot_4 rfl (lv_at hl 2 rfl) ?_
  refine KT.call (C := RX4) (ci := 4) (rest := [.int 0, .ref ob]) (ws := wX cI o g f a ++ [(ob, .inl (cL, 1, .inr (.inl w)))]) (wt := wX cI o g f a ++ [(ob, .inl (cL, 1, .inr (.inl w)))]) (kX4_dot l hl0 D cI o tS sc g f a p1 p2) (cwV 2 hts gL_dot_X4_dot rfl rfl rfl (by decide +kernel) ⟨Nat.le_of_ble_eq_true rfl, Nat.le_of_ble_eq_true rfl⟩) ⟨hx, hb, hml, hown, hts⟩ hK hP hD hS hA hG rfl rfl rfl [0, 1, 2, 3, 4, 5, 6, 7, 8, 9, 10] [11] [1, 2, 3, 4, 5, 6, 7, 8, 9, 10, 11, 0] [1, 2, 3, 4, 5, 6, 7, 8, 9, 10, 11, 0] (by decide) rfl (wr := [_]) rfl (by decide) (by decide) (by decide) rfl (by decide) rfl rfl hl.1 rfl (Nat.le_of_ble_eq_true rfl) dL_dot_5 ⟨Nat.le_of_ble_eq_true rfl, Nat.le_of_ble_eq_true rfl⟩ (fun hn9 => ?_) (fun hy9 => ?_)
  · exact absurd ht hn9
  · intro H locs q ce hP hD hS hq hv hcl
    refine vc_catch (own := RL) (name := "java/lang/IndexOutOfBoundsException") (E := "java/lang/IndexOutOfBoundsException") hown ⟨0, 10, 13, 30⟩ htab (by decide) (by decide) (hts (.classLink RL 30 "java/lang/IndexOutOfBoundsException") (List.mem_of_getElem? (i := 1) rfl)) (va_Nw.use rfl hG.2.2.2.2.2.1) hq hv hcl ?_
    refine lv_astore (lv' := [(4, .ref q), (0, .ref (o 10)), (1, .int p1), (2, .int p2), (3, .ref ob)]) hx hb dL_dot_13 hl (by decide) rfl (fun ls hl => ?_)
    refine lv_iconst (v := 1) hx hb dL_dot_15 (by decide) ?_
    exact KL.reti hx hb hr hlocks hK hP hD hS dL_dot_16
set_option maxRecDepth 20000 in
theorem kL_dot_f (l : Launch) (hl0 : l.stackTraces = false) (D : va_G) (cI cL : ClassId) (o : Nat → Nat) (tS : Nat) (sc : Nat → Nat) (ob : Nat) (w : Nat → Int64) (g : Nat → Int32) (f : Nat → Int32) (a : Nat → Nat → Int32) (p1 p2 : Int32) (ht : xDotX g f a p1 p2 = false) : KL l yL_dot wsL_dot tS sc [.ref (o 10), .int p1, .int p2, .ref ob] D cI cL (wX cI o g f a ++ [(ob, .inl (cL, 1, .inr (.inl w)))]) (wX cI o g f a ++ [(ob, .inl (cL, 1, .inr (.inl (vp_updL w (0 : Int32).toNatClampNeg ((xDot g f a p1 p2)).toInt64))))]) 0 := by
  refine KL.of (cc := cL_dot) (maxL := 5) (hh := [(0, 10, 13, 30)]) (by decide) rfl (Nat.le_of_ble_eq_true rfl) ?_
  intro p e s m below meth c A hx hb hr hts hown hlocks hml htab hK hL hP hD hS hA hG ls hl
  have hl : lv_has ls 5 [(0, .ref (o 10)), (1, .int p1), (2, .int p2), (3, .ref ob)] := hl
  have hown : s.vm.findClass RL = some m.cls := hown
  refine lv_aload_n hx hb dL_dot_0 rfl (lv_at hl 3 rfl) ?_
  refine lv_iconst (v := 0) hx hb dL_dot_1 (by decide) ?_
  refine lv_aload_n hx hb dL_dot_2 rfl (lv_at hl 0 rfl) ?_
  refine lv_iload_n hx hb dL_dot_3 rfl (lv_at hl 1 rfl) ?_
  refine lv_iload_n hx hb dL_dot_4 rfl (lv_at hl 2 rfl) ?_
  refine KT.call (C := RX4) (ci := 4) (rest := [.int 0, .ref ob]) (ws := wX cI o g f a ++ [(ob, .inl (cL, 1, .inr (.inl w)))]) (wt := wX cI o g f a ++ [(ob, .inl (cL, 1, .inr (.inl w)))]) (kX4_dot l hl0 D cI o tS sc g f a p1 p2) (cwV 2 hts gL_dot_X4_dot rfl rfl rfl (by decide +kernel) ⟨Nat.le_of_ble_eq_true rfl, Nat.le_of_ble_eq_true rfl⟩) ⟨hx, hb, hml, hown, hts⟩ hK hP hD hS hA hG rfl rfl rfl [0, 1, 2, 3, 4, 5, 6, 7, 8, 9, 10] [11] [1, 2, 3, 4, 5, 6, 7, 8, 9, 10, 11, 0] [1, 2, 3, 4, 5, 6, 7, 8, 9, 10, 11, 0] (by decide) rfl (wr := [_]) rfl (by decide) (by decide) (by decide) rfl (by decide) rfl rfl hl.1 rfl (Nat.le_of_ble_eq_true rfl) dL_dot_5 ⟨Nat.le_of_ble_eq_true rfl, Nat.le_of_ble_eq_true rfl⟩ (fun hn9 => ?_) (fun hy9 => ?_)
  · intro H locs hP hD hS
    refine lv_i2l hx hb dL_dot_8 rfl ?_
    refine va_last (tys := [(cL, .long)]) hx hb hL hP hD hS 11 0 rfl rfl vp_in01 dL_dot_9 (fun H locs hP hD hS => ?_)
    have hP : va_P D vwCl (wX cI o g f a ++ [(ob, .inl (cL, 1, .inr (.inl (vp_updL w (0 : Int32).toNatClampNeg ((xDot g f a p1 p2)).toInt64))))]) H := hP
    have hD : va_D A (wX cI o g f a ++ [(ob, .inl (cL, 1, .inr (.inl (vp_updL w (0 : Int32).toNatClampNeg ((xDot g f a p1 p2)).toInt64))))]) := hD
    refine lv_goto (tgt := 17) hx hb dL_dot_10 (by decide) ?_
    refine lv_iconst (v := 0) hx hb dL_dot_17 (by decide) ?_
    exact KL.reti hx hb hr hlocks hK hP hD hS dL_dot_18
  · exact absurd (hy9.symm.trans ht) (by decide)
set_option maxRecDepth 20000 in
theorem kL_state_t (l : Launch) (hl0 : l.stackTraces = false) (D : va_G) (cI cL : ClassId) (o : Nat → Nat) (tS : Nat) (sc : Nat → Nat) (ob : Nat) (w : Nat → Int64) (g : Nat → Int32) (f : Nat → Int32) (a : Nat → Nat → Int32) (p1 : Int32) (ht : xStateX g f a p1 = true) : KL l yL_state wsL_state tS sc [.ref (o 10), .int p1, .ref ob] D cI cL (wX cI o g f a ++ [(ob, .inl (cL, 1, .inr (.inl w)))]) (wX cI o g f a ++ [(ob, .inl (cL, 1, .inr (.inl w)))]) 1 := by
  refine KL.of (cc := cL_state) (maxL := 4) (hh := [(0, 9, 12, 13)]) (by decide) rfl (Nat.le_of_ble_eq_true rfl) ?_
  intro p e s m below meth c A hx hb hr hts hown hlocks hml htab hK hL hP hD hS hA hG ls hl
  have hl : lv_has ls 4 [(0, .ref (o 10)), (1, .int p1), (2, .ref ob)] := hl
  have hown : s.vm.findClass RL = some m.cls := hown
  refine lv_aload_n hx hb dL_state_0 rfl (lv_at hl 2 rfl) ?_
  refine lv_iconst (v := 0) hx hb dL_state_1 (by decide) ?_
  refine lv_aload_n hx hb dL_state_2 rfl (lv_at hl 0 rfl) ?_
  refine lv_iload_n hx hb dL_state_3 rfl (lv_at hl 1 rfl) ?_
  refine KT.call (C := RX4) (ci := 4) (rest := [.int 0, .ref ob]) (ws := wX cI o g f a ++ [(ob, .inl (cL, 1, .inr (.inl w)))]) (wt := wX cI o g f a ++ [(ob, .inl (cL, 1, .inr (.inl w)))]) (kX4_state l hl0 D cI o tS sc g f a p1) (cwV 1 hts gL_state_X4_state rfl rfl rfl (by decide +kernel) ⟨Nat.le_of_ble_eq_true rfl, Nat.le_of_ble_eq_true rfl⟩) ⟨hx, hb, hml, hown, hts⟩ hK hP hD hS hA hG rfl rfl rfl [0, 1, 2, 3, 4, 5, 6, 7, 8, 9, 10] [11] [1, 2, 3, 4, 5, 6, 7, 8, 9, 10, 11, 0] [1, 2, 3, 4, 5, 6, 7, 8, 9, 10, 11, 0] (by decide) rfl (wr := [_]) rfl (by decide) (by decide) (by decide) rfl (by decide) rfl rfl hl.1 rfl (Nat.le_of_ble_eq_true rfl) dL_state_4 ⟨Nat.le_of_ble_eq_true rfl, Nat.le_of_ble_eq_true rfl⟩ (fun hn9 => ?_) (fun hy9 => ?_)
  · exact absurd ht hn9
  · intro H locs q ce hP hD hS hq hv hcl
    refine vc_catch (own := RL) (name := "java/lang/IllegalArgumentException") (E := "java/lang/IllegalArgumentException") hown ⟨0, 9, 12, 13⟩ htab (by decide) (by decide) (hts (.classLink RL 13 "java/lang/IllegalArgumentException") (List.mem_of_getElem? (i := 1) rfl)) (va_Nw.use rfl hG.2.2.2.2.1) hq hv hcl ?_
    refine lv_astore_n (lv' := [(3, .ref q), (0, .ref (o 10)), (1, .int p1), (2, .ref ob)]) hx hb dL_state_12 rfl hl (by decide) rfl (fun ls hl => ?_)
    refine lv_iconst (v := 1) hx hb dL_state_13 (by decide) ?_
    exact KL.reti hx hb hr hlocks hK hP hD hS dL_state_14
set_option maxRecDepth 20000 in
theorem kL_state_f (l : Launch) (hl0 : l.stackTraces = false) (D : va_G) (cI cL : ClassId) (o : Nat → Nat) (tS : Nat) (sc : Nat → Nat) (ob : Nat) (w : Nat → Int64) (g : Nat → Int32) (f : Nat → Int32) (a : Nat → Nat → Int32) (p1 : Int32) (ht : xStateX g f a p1 = false) : KL l yL_state wsL_state tS sc [.ref (o 10), .int p1, .ref ob] D cI cL (wX cI o g f a ++ [(ob, .inl (cL, 1, .inr (.inl w)))]) (wX cI o g f a ++ [(ob, .inl (cL, 1, .inr (.inl (vp_updL w (0 : Int32).toNatClampNeg ((xState g f a p1)).toInt64))))]) 0 := by
  refine KL.of (cc := cL_state) (maxL := 4) (hh := [(0, 9, 12, 13)]) (by decide) rfl (Nat.le_of_ble_eq_true rfl) ?_
  intro p e s m below meth c A hx hb hr hts hown hlocks hml htab hK hL hP hD hS hA hG ls hl
  have hl : lv_has ls 4 [(0, .ref (o 10)), (1, .int p1), (2, .ref ob)] := hl
  have hown : s.vm.findClass RL = some m.cls := hown
  refine lv_aload_n hx hb dL_state_0 rfl (lv_at hl 2 rfl) ?_
  refine lv_iconst (v := 0) hx hb dL_state_1 (by decide) ?_
  refine lv_aload_n hx hb dL_state_2 rfl (lv_at hl 0 rfl) ?_
  refine lv_iload_n hx hb dL_state_3 rfl (lv_at hl 1 rfl) ?_
  refine KT.call (C := RX4) (ci := 4) (rest := [.int 0, .ref ob]) (ws := wX cI o g f a ++ [(ob, .inl (cL, 1, .inr (.inl w)))]) (wt := wX cI o g f a ++ [(ob, .inl (cL, 1, .inr (.inl w)))]) (kX4_state l hl0 D cI o tS sc g f a p1) (cwV 1 hts gL_state_X4_state rfl rfl rfl (by decide +kernel) ⟨Nat.le_of_ble_eq_true rfl, Nat.le_of_ble_eq_true rfl⟩) ⟨hx, hb, hml, hown, hts⟩ hK hP hD hS hA hG rfl rfl rfl [0, 1, 2, 3, 4, 5, 6, 7, 8, 9, 10] [11] [1, 2, 3, 4, 5, 6, 7, 8, 9, 10, 11, 0] [1, 2, 3, 4, 5, 6, 7, 8, 9, 10, 11, 0] (by decide) rfl (wr := [_]) rfl (by decide) (by decide) (by decide) rfl (by decide) rfl rfl hl.1 rfl (Nat.le_of_ble_eq_true rfl) dL_state_4 ⟨Nat.le_of_ble_eq_true rfl, Nat.le_of_ble_eq_true rfl⟩ (fun hn9 => ?_) (fun hy9 => ?_)
  · intro H locs hP hD hS
    refine lv_i2l hx hb dL_state_7 rfl ?_
    refine va_last (tys := [(cL, .long)]) hx hb hL hP hD hS 11 0 rfl rfl vp_in01 dL_state_8 (fun H locs hP hD hS => ?_)
    have hP : va_P D vwCl (wX cI o g f a ++ [(ob, .inl (cL, 1, .inr (.inl (vp_updL w (0 : Int32).toNatClampNeg ((xState g f a p1)).toInt64))))]) H := hP
    have hD : va_D A (wX cI o g f a ++ [(ob, .inl (cL, 1, .inr (.inl (vp_updL w (0 : Int32).toNatClampNeg ((xState g f a p1)).toInt64))))]) := hD
    refine lv_goto (tgt := 15) hx hb dL_state_9 (by decide) ?_
    refine lv_iconst (v := 0) hx hb dL_state_15 (by decide) ?_
    exact KL.reti hx hb hr hlocks hK hP hD hS dL_state_16
  · exact absurd (hy9.symm.trans ht) (by decide)
set_option maxRecDepth 20000 in
theorem kL_sounds_t (l : Launch) (hl0 : l.stackTraces = false) (D : va_G) (cI cL : ClassId) (o : Nat → Nat) (tS : Nat) (sc : Nat → Nat) (ob : Nat) (w : Nat → Int64) (g : Nat → Int32) (f : Nat → Int32) (a : Nat → Nat → Int32) (p1 : Int32) (ht : xSoundsX g f a p1 = true) : KL l yL_sounds wsL_sounds tS sc [.ref (o 10), .int p1, .ref ob] D cI cL (wX cI o g f a ++ [(ob, .inl (cL, 1, .inr (.inl w)))]) (wX cI o g f a ++ [(ob, .inl (cL, 1, .inr (.inl w)))]) 1 := by
  refine KL.of (cc := cL_sounds) (maxL := 4) (hh := [(0, 9, 12, 13)]) (by decide) rfl (Nat.le_of_ble_eq_true rfl) ?_
  intro p e s m below meth c A hx hb hr hts hown hlocks hml htab hK hL hP hD hS hA hG ls hl
  have hl : lv_has ls 4 [(0, .ref (o 10)), (1, .int p1), (2, .ref ob)] := hl
  have hown : s.vm.findClass RL = some m.cls := hown
  refine lv_aload_n hx hb dL_sounds_0 rfl (lv_at hl 2 rfl) ?_
  refine lv_iconst (v := 0) hx hb dL_sounds_1 (by decide) ?_
  refine lv_aload_n hx hb dL_sounds_2 rfl (lv_at hl 0 rfl) ?_
  refine lv_iload_n hx hb dL_sounds_3 rfl (lv_at hl 1 rfl) ?_
  refine KT.call (C := RX4) (ci := 4) (rest := [.int 0, .ref ob]) (ws := wX cI o g f a ++ [(ob, .inl (cL, 1, .inr (.inl w)))]) (wt := wX cI o g f a ++ [(ob, .inl (cL, 1, .inr (.inl w)))]) (kX4_sounds l hl0 D cI o tS sc g f a p1) (cwV 1 hts gL_sounds_X4_sounds rfl rfl rfl (by decide +kernel) ⟨Nat.le_of_ble_eq_true rfl, Nat.le_of_ble_eq_true rfl⟩) ⟨hx, hb, hml, hown, hts⟩ hK hP hD hS hA hG rfl rfl rfl [0, 1, 2, 3, 4, 5, 6, 7, 8, 9, 10] [11] [1, 2, 3, 4, 5, 6, 7, 8, 9, 10, 11, 0] [1, 2, 3, 4, 5, 6, 7, 8, 9, 10, 11, 0] (by decide) rfl (wr := [_]) rfl (by decide) (by decide) (by decide) rfl (by decide) rfl rfl hl.1 rfl (Nat.le_of_ble_eq_true rfl) dL_sounds_4 ⟨Nat.le_of_ble_eq_true rfl, Nat.le_of_ble_eq_true rfl⟩ (fun hn9 => ?_) (fun hy9 => ?_)
  · exact absurd ht hn9
  · intro H locs q ce hP hD hS hq hv hcl
    refine vc_catch (own := RL) (name := "java/lang/IllegalArgumentException") (E := "java/lang/IllegalArgumentException") hown ⟨0, 9, 12, 13⟩ htab (by decide) (by decide) (hts (.classLink RL 13 "java/lang/IllegalArgumentException") (List.mem_of_getElem? (i := 1) rfl)) (va_Nw.use rfl hG.2.2.2.2.1) hq hv hcl ?_
    refine lv_astore_n (lv' := [(3, .ref q), (0, .ref (o 10)), (1, .int p1), (2, .ref ob)]) hx hb dL_sounds_12 rfl hl (by decide) rfl (fun ls hl => ?_)
    refine lv_iconst (v := 1) hx hb dL_sounds_13 (by decide) ?_
    exact KL.reti hx hb hr hlocks hK hP hD hS dL_sounds_14
set_option maxRecDepth 20000 in
theorem kL_sounds_f (l : Launch) (hl0 : l.stackTraces = false) (D : va_G) (cI cL : ClassId) (o : Nat → Nat) (tS : Nat) (sc : Nat → Nat) (ob : Nat) (w : Nat → Int64) (g : Nat → Int32) (f : Nat → Int32) (a : Nat → Nat → Int32) (p1 : Int32) (ht : xSoundsX g f a p1 = false) : KL l yL_sounds wsL_sounds tS sc [.ref (o 10), .int p1, .ref ob] D cI cL (wX cI o g f a ++ [(ob, .inl (cL, 1, .inr (.inl w)))]) (wX cI o g f a ++ [(ob, .inl (cL, 1, .inr (.inl (vp_updL w (0 : Int32).toNatClampNeg ((xSounds g f a p1)).toInt64))))]) 0 := by
  refine KL.of (cc := cL_sounds) (maxL := 4) (hh := [(0, 9, 12, 13)]) (by decide) rfl (Nat.le_of_ble_eq_true rfl) ?_
  intro p e s m below meth c A hx hb hr hts hown hlocks hml htab hK hL hP hD hS hA hG ls hl
  have hl : lv_has ls 4 [(0, .ref (o 10)), (1, .int p1), (2, .ref ob)] := hl
  have hown : s.vm.findClass RL = some m.cls := hown
  refine lv_aload_n hx hb dL_sounds_0 rfl (lv_at hl 2 rfl) ?_
  refine lv_iconst (v := 0) hx hb dL_sounds_1 (by decide) ?_
  refine lv_aload_n hx hb dL_sounds_2 rfl (lv_at hl 0 rfl) ?_
  refine lv_iload_n hx hb dL_sounds_3 rfl (lv_at hl 1 rfl) ?_
  refine KT.call (C := RX4) (ci := 4) (rest := [.int 0, .ref ob]) (ws := wX cI o g f a ++ [(ob, .inl (cL, 1, .inr (.inl w)))]) (wt := wX cI o g f a ++ [(ob, .inl (cL, 1, .inr (.inl w)))]) (kX4_sounds l hl0 D cI o tS sc g f a p1) (cwV 1 hts gL_sounds_X4_sounds rfl rfl rfl (by decide +kernel) ⟨Nat.le_of_ble_eq_true rfl, Nat.le_of_ble_eq_true rfl⟩) ⟨hx, hb, hml, hown, hts⟩ hK hP hD hS hA hG rfl rfl rfl [0, 1, 2, 3, 4, 5, 6, 7, 8, 9, 10] [11] [1, 2, 3, 4, 5, 6, 7, 8, 9, 10, 11, 0] [1, 2, 3, 4, 5, 6, 7, 8, 9, 10, 11, 0] (by decide) rfl (wr := [_]) rfl (by decide) (by decide) (by decide) rfl (by decide) rfl rfl hl.1 rfl (Nat.le_of_ble_eq_true rfl) dL_sounds_4 ⟨Nat.le_of_ble_eq_true rfl, Nat.le_of_ble_eq_true rfl⟩ (fun hn9 => ?_) (fun hy9 => ?_)
  · intro H locs hP hD hS
    refine lv_i2l hx hb dL_sounds_7 rfl ?_
    refine va_last (tys := [(cL, .long)]) hx hb hL hP hD hS 11 0 rfl rfl vp_in01 dL_sounds_8 (fun H locs hP hD hS => ?_)
    have hP : va_P D vwCl (wX cI o g f a ++ [(ob, .inl (cL, 1, .inr (.inl (vp_updL w (0 : Int32).toNatClampNeg ((xSounds g f a p1)).toInt64))))]) H := hP
    have hD : va_D A (wX cI o g f a ++ [(ob, .inl (cL, 1, .inr (.inl (vp_updL w (0 : Int32).toNatClampNeg ((xSounds g f a p1)).toInt64))))]) := hD
    refine lv_goto (tgt := 15) hx hb dL_sounds_9 (by decide) ?_
    refine lv_iconst (v := 0) hx hb dL_sounds_15 (by decide) ?_
    exact KL.reti hx hb hr hlocks hK hP hD hS dL_sounds_16
  · exact absurd (hy9.symm.trans ht) (by decide)
