def rRunL (least : Int32) : Nat → Int32 → (Nat → Int32) → (Nat → Nat → Int32) → Int32 × (Nat → Int32) × (Nat → Nat → Int32)
  | 0, sm, f, a => (sm, f, a)
  | n + 1, sm, f, a => if least ≤ sm then (sm, f, a) else (match rStep f a with
    | (r, f1, a1) => rRunL least n (sm + r) f1 a1)
theorem run_le {p1 sm r : Int32} {n : Nat} (hsm : 0 ≤ sm.toInt ∧ sm.toInt ≤ 100000) (h1 : 1 ≤ r.toInt) (h2 : r.toInt ≤ 100) (hn : p1.toInt - sm.toInt ≤ n + 1 ∧ p1.toInt ≤ 40000) (c : ¬ p1 ≤ sm) : (0 ≤ (sm + r).toInt ∧ (sm + r).toInt ≤ 100000) ∧ p1.toInt - (sm + r).toInt ≤ n ∧ p1.toInt ≤ 40000 := by
  rw [Int32.le_iff_toInt_le] at c
  have e : (sm + r).toInt = sm.toInt + r.toInt := by
    rw [Int32.toInt_add, Int.bmod_eq_of_le] <;> omega
  rw [e]
  omega
set_option maxHeartbeats 4000000 in
set_option maxRecDepth 100000 in
theorem lpX5_run {l : Launch} {D : va_G} {cI : ClassId} {o : Nat → Nat} {p1 : Int32} {p : Program} {e : Env} {s : State} {m : MethodId} {args : Array Value} {below : List Frame} {meth : Method} {c : Code} {A : Nat → Prop} (hx : p.tables.exec = Jvm.exec) (hb : c.code = cX5_run) (hr : meth.sig.returnType = (some .int)) (hts : ∀ w ∈ wsX5_run, w.before args s = true) (hown : s.vm.findClass RX5 = some m.cls) (hlocks : meth.locks = false) (hml : c.maxLocals = 3) (hK : va_K D vwCl [(cI, .int)] s) (hA : ∀ q : Nat, s.heap.size ≤ q → A q)
    {Inv : (Nat → Int32) → (Nat → Nat → Int32) → Prop} (hI0 : ∀ f a, Inv f a → (∀ q : Int32, ¬ rRead f a q < 0) ∧ (narrow .boolean (.int (f 3)) = .int (f 3) ∧ fits .boolean (.int (f 3)) = true)) (hInv : ∀ f a, Inv f a → ∀ r f1 a1, rStep f a = (r, f1, a1) → Inv f1 a1 ∧ 1 ≤ r.toInt ∧ r.toInt ≤ 100) :
    ∀ (n : Nat) (sm : Int32) (f : Nat → Int32) (a : Nat → Nat → Int32), Inv f a → (0 ≤ sm.toInt ∧ sm.toInt ≤ 100000) → (p1.toInt - sm.toInt ≤ n ∧ p1.toInt ≤ 40000) → ∀ (H : Heap) (locs : List Loc), va_P D vwCl (wR cI o f a) H → va_D A (wR cI o f a) → va_S A s.heap H locs → ∀ ls : Array Slot, lv_has ls 3 [(2, .int sm), (0, .ref (o 20)), (1, .int p1)] → W p l e (rmD 8) s m args below meth c H locs 0 0 (MQ below (kq_ D cI (some (.int (rRunL p1 (n + 1) sm f a).1)) (wR cI o (rRunL p1 (n + 1) sm f a).2.1 (rRunL p1 (n + 1) sm f a).2.2) A) args s 0 0 A) (F0 m 31 ls []) := by
  have hi5 : ∀ w ∈ u_ws RX5 TX5 24, w ∈ wsX5_run := fun w h => List.mem_cons_of_mem _ (List.mem_append_right _ h)
  intro n
  induction n with
  | zero =>
    intro sm f a hI hsm hn H locs hP hD hS ls hl
    obtain ⟨hR, hs⟩ := hI0 f a hI
    refine lv_iload_n hx hb dX5_run_31 rfl (lv_at hl 0 rfl) ?_
    refine lv_iload_n hx hb dX5_run_32 rfl (lv_at hl 2 rfl) ?_
    refine lv_icmp_ge (tgt := 46) hx hb dX5_run_33 (by decide) (fun c_1 => ?_) (fun c_1 => ?_)
    · refine lv_iload_n hx hb dX5_run_46 rfl (lv_at hl 0 rfl) ?_
      have hF : rRunL p1 (0 + 1) sm f a = (sm, f, a) := by
        show (if p1 ≤ sm then (sm, f, a) else (match rStep f a with | (r, f1, a1) => rRunL p1 0 (sm + r) f1 a1)) = _
        exact if_pos c_1
      rw [hF]
      exact KC.reti hx hb hr hlocks hK hP hD hS dX5_run_47 rfl
    · exact absurd (by rw [Int32.le_iff_toInt_le]; omega) c_1
  | succ n ih =>
    intro sm f a hI hsm hn H locs hP hD hS ls hl
    obtain ⟨hR, hs⟩ := hI0 f a hI
    refine lv_iload_n hx hb dX5_run_31 rfl (lv_at hl 0 rfl) ?_
    refine lv_iload_n hx hb dX5_run_32 rfl (lv_at hl 2 rfl) ?_
    refine lv_icmp_ge (tgt := 46) hx hb dX5_run_33 (by decide) (fun c_1 => ?_) (fun c_1 => ?_)
    · refine lv_iload_n hx hb dX5_run_46 rfl (lv_at hl 0 rfl) ?_
      have hF : rRunL p1 (n + 1 + 1) sm f a = (sm, f, a) := by
        show (if p1 ≤ sm then (sm, f, a) else (match rStep f a with | (r, f1, a1) => rRunL p1 (n + 1) (sm + r) f1 a1)) = _
        exact if_pos c_1
      rw [hF]
      exact KC.reti hx hb hr hlocks hK hP hD hS dX5_run_47 rfl
    · refine lv_iload_n hx hb dX5_run_36 rfl (lv_at hl 0 rfl) ?_
      refine lv_aload_n hx hb dX5_run_37 rfl (lv_at hl 1 rfl) ?_
      obtain ⟨r_2, f_2, a_2, hB_2⟩ := k_ex3 (rStep f a)
      have kc_2 := kX5_step l D cI o f a hR hs
      rw [hB_2] at kc_2; dsimp only at kc_2
      refine KC.calli (ci := 5) (rest := [.int sm]) (wt := wR cI o f_2 a_2) (kc_2) (cwV 0 hts gX5_run_X5_step rfl rfl rfl (by decide +kernel) ⟨Nat.le_of_ble_eq_true rfl, Nat.le_of_ble_eq_true rfl⟩) ⟨hx, hb, hml, hown, hts⟩ hK hP hD hS hA rfl rfl rfl [0, 1, 2, 3, 4, 5, 6] [] [0, 1, 2, 3, 4, 5, 6] (by decide) rfl (wr := []) rfl (by decide) (by decide) (by decide) rfl rfl hl.1 rfl (Nat.le_of_ble_eq_true rfl) dX5_run_38 ⟨Nat.zero_le _, Nat.zero_le _⟩ (fun H locs hP hD hS => ?_)
      refine lv_iadd hx hb dX5_run_41 ?_
      refine lv_istore_n (lv' := [(2, .int _), (0, .ref _), (1, .int _)]) hx hb dX5_run_42 rfl hl (by decide) rfl (fun ls hl => ?_)
      refine lv_goto (tgt := 31) hx hb dX5_run_43 (by decide) ?_
      have hF : rRunL p1 (n + 1 + 1) sm f a = rRunL p1 (n + 1) (sm + r_2) f_2 a_2 := by
        show (if p1 ≤ sm then (sm, f, a) else (match rStep f a with | (r, f1, a1) => rRunL p1 (n + 1) (sm + r) f1 a1)) = _
        refine (if_neg c_1).trans ?_
        rewrite [hB_2]
        rfl
      rw [hF]
      obtain ⟨hI1, hr1, hr2⟩ := hInv f a hI _ _ _ hB_2
      exact ih _ _ _ hI1 (run_le hsm hr1 hr2 hn c_1).1 (run_le hsm hr1 hr2 hn c_1).2 H locs hP hD hS ls (lv_sub hl [0, 1, 2] rfl)
theorem run_0 {p1 : Int32} (c : p1 ≤ (40000 : Int32)) : p1.toInt - (0 : Int32).toInt ≤ (nRun : Nat) ∧ p1.toInt ≤ 40000 := by
  rw [Int32.le_iff_toInt_le] at c
  have e : (40000 : Int32).toInt = 40000 := by decide
  have e0 : (0 : Int32).toInt = 0 := by decide
  have e2 : ((nRun : Nat) : Int) = 40000 := rfl
  omega
def rRun (f : Nat → Int32) (a : Nat → Nat → Int32) (p1 : Int32) : Int32 × (Nat → Int32) × (Nat → Nat → Int32) :=
  if p1 < (1 : Int32) then ((0 : Int32), upd f 11 (1 : Int32), a)
  else if p1 ≤ (40000 : Int32) then rRunL p1 (nRun + 1) (0 : Int32) (upd f 11 (0 : Int32)) a
    else ((0 : Int32), upd f 11 (1 : Int32), a)
set_option maxHeartbeats 4000000 in
set_option maxRecDepth 100000 in
theorem kX5_run (l : Launch) (D : va_G) (cI : ClassId) (o : Nat → Nat) (f : Nat → Int32) (a : Nat → Nat → Int32) (p1 : Int32) (Inv : (Nat → Int32) → (Nat → Nat → Int32) → Prop) (hI0 : ∀ f a, Inv f a → (∀ q : Int32, ¬ rRead f a q < 0) ∧ (narrow .boolean (.int (f 3)) = .int (f 3) ∧ fits .boolean (.int (f 3)) = true)) (hInv : ∀ f a, Inv f a → ∀ r f1 a1, rStep f a = (r, f1, a1) → Inv f1 a1 ∧ 1 ≤ r.toInt ∧ r.toInt ≤ 100) (hI : Inv (upd f 11 (0 : Int32)) a) : KC l yX5_run wsX5_run 8 [.ref (o 20), .int p1] D cI (wR cI o f a) (wR cI o ((rRun f a p1).2.1) ((rRun f a p1).2.2)) (some (.int (rRun f a p1).1)) := by
  refine KC.of (cc := cX5_run) (maxL := 3) (by decide) rfl (Nat.le_of_ble_eq_true rfl) ?_
  intro p e s m below meth c A hx hb hr hts hown hlocks hml hK hP hD hS hA ls hl
  have hl : lv_has ls 3 [(0, .ref (o 20)), (1, .int p1)] := hl
  have hown : s.vm.findClass RX5 = some m.cls := hown
  have hi5 : ∀ w ∈ u_ws RX5 TX5 24, w ∈ wsX5_run := fun w h => List.mem_cons_of_mem _ (List.mem_append_right _ h)
  refine lv_aload_n hx hb dX5_run_0 rfl (lv_at hl 0 rfl) ?_
  refine lv_iload_n hx hb dX5_run_1 rfl (lv_at hl 1 rfl) ?_
  refine lv_iconst (v := 1) hx hb dX5_run_2 (by decide) ?_
  refine lv_icmp_lt (tgt := 12) hx hb dX5_run_3 (by decide) (fun c_1 => ?_) (fun c_1 => ?_)
  · refine lv_iconst (v := 1) hx hb dX5_run_12 (by decide) ?_
    refine lv_goto (tgt := 17) hx hb dX5_run_13 (by decide) ?_
    refine pu_R_f11 (v := (1 : Int32)) hx hb hts hi5 hown hK hP hD hS (hts (.fieldLink RX5 28 "InvaderBoardModel" "code" "I") (List.mem_cons_of_mem _ (List.mem_append_left _ (List.mem_append_left _ (List.mem_of_getElem? (i := 1) rfl))))) dX5_run_17 (fun H locs hP hD hS => ?_)
    refine lv_aload_n hx hb dX5_run_20 rfl (lv_at hl 0 rfl) ?_
    refine va_get (ci := 5) (v := .int (1 : Int32)) (C := RX5) (T := TX5) (N := 24) hx hb hts hi5 hown hK hP 0 rfl rfl 0 (by decide) (hts (.fieldLink RX5 28 "InvaderBoardModel" "code" "I") (List.mem_cons_of_mem _ (List.mem_append_left _ (List.mem_append_left _ (List.mem_of_getElem? (i := 1) rfl))))) (fun _ h9 => h9) rfl dX5_run_21 ?_
    refine lv_if_le (tgt := 29) hx hb dX5_run_24 (by decide) (fun c_2 => ?_) (fun c_2 => ?_)
    · exact absurd c_2 (by decide)
    · refine lv_iconst (v := 0) hx hb dX5_run_27 (by decide) ?_
      have hF : rRun f a p1 = ((0 : Int32), upd f 11 (1 : Int32), a) := by
        unfold rRun
        refine (if_pos c_1).trans ?_
        rfl
      rw [hF]
      exact KC.reti hx hb hr hlocks hK hP hD hS dX5_run_28 rfl
  · refine lv_iload_n hx hb dX5_run_6 rfl (lv_at hl 1 rfl) ?_
    refine lv_ldc (v := 40000) hx hb hown (hts (.constant RX5 185 40000) (List.mem_cons_of_mem _ (List.mem_append_left _ (List.mem_append_left _ (List.mem_of_getElem? (i := 0) rfl))))) dX5_run_7 ?_
    refine lv_icmp_le (tgt := 16) hx hb dX5_run_9 (by decide) (fun c_3 => ?_) (fun c_3 => ?_)
    · refine lv_iconst (v := 0) hx hb dX5_run_16 (by decide) ?_
      refine pu_R_f11 (v := (0 : Int32)) hx hb hts hi5 hown hK hP hD hS (hts (.fieldLink RX5 28 "InvaderBoardModel" "code" "I") (List.mem_cons_of_mem _ (List.mem_append_left _ (List.mem_append_left _ (List.mem_of_getElem? (i := 1) rfl))))) dX5_run_17 (fun H locs hP hD hS => ?_)
      refine lv_aload_n hx hb dX5_run_20 rfl (lv_at hl 0 rfl) ?_
      refine va_get (ci := 5) (v := .int (0 : Int32)) (C := RX5) (T := TX5) (N := 24) hx hb hts hi5 hown hK hP 0 rfl rfl 0 (by decide) (hts (.fieldLink RX5 28 "InvaderBoardModel" "code" "I") (List.mem_cons_of_mem _ (List.mem_append_left _ (List.mem_append_left _ (List.mem_of_getElem? (i := 1) rfl))))) (fun _ h9 => h9) rfl dX5_run_21 ?_
      refine lv_if_le (tgt := 29) hx hb dX5_run_24 (by decide) (fun c_4 => ?_) (fun c_4 => ?_)
      · refine lv_iconst (v := 0) hx hb dX5_run_29 (by decide) ?_
        refine lv_istore_n (lv' := [(2, .int _), (0, .ref _), (1, .int _)]) hx hb dX5_run_30 rfl hl (by decide) rfl (fun ls hl => ?_)
        have hF : rRun f a p1 = rRunL p1 (nRun + 1) (0 : Int32) (upd f 11 (0 : Int32)) a := by
          unfold rRun
          refine (if_neg c_1).trans ?_
          refine (if_pos c_3).trans ?_
          rfl
        rw [hF]
        exact lpX5_run hx hb hr hts hown hlocks hml hK hA hI0 hInv nRun _ _ _ hI (by decide) (run_0 c_3) _ _ hP hD hS ls (lv_sub hl [0, 1, 2] rfl)
      · exact absurd c_4 (by decide)
    · refine lv_iconst (v := 1) hx hb dX5_run_12 (by decide) ?_
      refine lv_goto (tgt := 17) hx hb dX5_run_13 (by decide) ?_
      refine pu_R_f11 (v := (1 : Int32)) hx hb hts hi5 hown hK hP hD hS (hts (.fieldLink RX5 28 "InvaderBoardModel" "code" "I") (List.mem_cons_of_mem _ (List.mem_append_left _ (List.mem_append_left _ (List.mem_of_getElem? (i := 1) rfl))))) dX5_run_17 (fun H locs hP hD hS => ?_)
      refine lv_aload_n hx hb dX5_run_20 rfl (lv_at hl 0 rfl) ?_
      refine va_get (ci := 5) (v := .int (1 : Int32)) (C := RX5) (T := TX5) (N := 24) hx hb hts hi5 hown hK hP 0 rfl rfl 0 (by decide) (hts (.fieldLink RX5 28 "InvaderBoardModel" "code" "I") (List.mem_cons_of_mem _ (List.mem_append_left _ (List.mem_append_left _ (List.mem_of_getElem? (i := 1) rfl))))) (fun _ h9 => h9) rfl dX5_run_21 ?_
      refine lv_if_le (tgt := 29) hx hb dX5_run_24 (by decide) (fun c_5 => ?_) (fun c_5 => ?_)
      · exact absurd c_5 (by decide)
      · refine lv_iconst (v := 0) hx hb dX5_run_27 (by decide) ?_
        have hF : rRun f a p1 = ((0 : Int32), upd f 11 (1 : Int32), a) := by
          unfold rRun
          refine (if_neg c_1).trans ?_
          refine (if_neg c_3).trans ?_
          rfl
        rw [hF]
        exact KC.reti hx hb hr hlocks hK hP hD hS dX5_run_28 rfl
