def rClearF (f : Nat → Int32) (a : Nat → Nat → Int32) (r : Nat → Int32) : Nat → Int32 := upd (upd (upd (upd (upd (upd (upd (upd (rSetFlags (upd (upd f 0 (0 : Int32)) 1 (0 : Int32)) (ua a 2 r) (0 : Int32)) 5 (0 : Int32)) 6 (0 : Int32)) 2 (0 : Int32)) 3 (0 : Int32)) 17 (0 : Int32)) 4 (0 : Int32)) 10 (0 : Int32)) 7 (0 : Int32)
def rClearA (a : Nat → Nat → Int32) (r : Nat → Int32) : Nat → Nat → Int32 := ua (ua (ua a 2 r) 4 (upd (a 4) (0 : Int32).toNatClampNeg (0 : Int32))) 4 (upd (upd (a 4) (0 : Int32).toNatClampNeg (0 : Int32)) (1 : Int32).toNatClampNeg (0 : Int32))
set_option maxHeartbeats 4000000 in
set_option maxRecDepth 100000 in
theorem lpX5_clear {l : Launch} {D : va_G} {cI : ClassId} {o : Nat → Nat} {f : Nat → Int32} {a : Nat → Nat → Int32} {p : Program} {e : Env} {s : State} {m : MethodId} {args : Array Value} {below : List Frame} {meth : Method} {c : Code} {A : Nat → Prop} (hx : p.tables.exec = Jvm.exec) (hb : c.code = cX5_clear) (hr : meth.sig.returnType = none) (hts : ∀ w ∈ wsX5_clear, w.before args s = true) (hown : s.vm.findClass RX5 = some m.cls) (hlocks : meth.locks = false) (hml : c.maxLocals = 2) (hK : va_K D vwCl [(cI, .int)] s) (hA : ∀ q : Nat, s.heap.size ≤ q → A q) :
    ∀ (n k : Nat), k + n = 8 → ∀ (r : Nat → Int32), ∀ (H : Heap) (locs : List Loc), va_P D vwCl (wR cI o f (ua a 2 r)) H → va_D A (wR cI o f (ua a 2 r)) → va_S A s.heap H locs → ∀ ls : Array Slot, lv_has ls 2 [(1, .int (nI k)), (0, .ref (o 20))] → W p l e (rmD 1) s m args below meth c H locs 0 0 (MQ below (kq_ D cI none (wR cI o (rClearF f a (xZeros n k r)) (rClearA a (xZeros n k r))) A) args s 0 0 A) (F0 m 2 ls []) := by
  have hi5 : ∀ w ∈ u_ws RX5 TX5 24, w ∈ wsX5_clear := fun w h => List.mem_cons_of_mem _ (List.mem_append_right _ h)
  intro n
  induction n with
  | zero =>
    intro k hk r H locs hP hD hS ls hl
    obtain rfl : k = 8 := by omega
    refine lv_iload_n hx hb dX5_clear_2 rfl (lv_at hl 0 rfl) ?_
    refine lv_bipush (v := 8) hx hb dX5_clear_3 (by decide) ?_
    refine lv_icmp_ge (tgt := 21) hx hb dX5_clear_5 (by decide) (fun c_1 => ?_) (fun c_1 => ?_)
    · refine lv_aload_n hx hb dX5_clear_21 rfl (lv_at hl 1 rfl) ?_
      refine lv_iconst (v := 0) hx hb dX5_clear_22 (by decide) ?_
      refine pu_R_f0 (v := (0 : Int32)) hx hb hts hi5 hown hK hP hD hS (hts (.fieldLink RX5 44 "InvaderBoardModel" "sp" "I") (List.mem_cons_of_mem _ (List.mem_append_left _ (List.mem_of_getElem? (i := 1) rfl)))) dX5_clear_23 (fun H locs hP hD hS => ?_)
      refine lv_aload_n hx hb dX5_clear_26 rfl (lv_at hl 1 rfl) ?_
      refine lv_iconst (v := 0) hx hb dX5_clear_27 (by decide) ?_
      refine pu_R_f1 (v := (0 : Int32)) hx hb hts hi5 hown hK hP hD hS (hts (.fieldLink RX5 33 "InvaderBoardModel" "pc" "I") (List.mem_cons_of_mem _ (List.mem_append_left _ (List.mem_of_getElem? (i := 2) rfl)))) dX5_clear_28 (fun H locs hP hD hS => ?_)
      refine lv_aload_n hx hb dX5_clear_31 rfl (lv_at hl 1 rfl) ?_
      refine lv_iconst (v := 0) hx hb dX5_clear_32 (by decide) ?_
      refine KC.callv (ci := 5) (rest := []) (wt := wR cI o (rSetFlags (upd (upd f 0 (0 : Int32)) 1 (0 : Int32)) (ua a 2 r) (0 : Int32)) (ua a 2 r)) (kX5_setFlags l D cI o (upd (upd f 0 (0 : Int32)) 1 (0 : Int32)) (ua a 2 r) (0 : Int32)) (cwV 1 hts gX5_clear_X5_setFlags rfl rfl rfl (by decide +kernel) ⟨Nat.le_of_ble_eq_true rfl, Nat.le_of_ble_eq_true rfl⟩) ⟨hx, hb, hml, hown, hts⟩ hK hP hD hS hA rfl rfl rfl [0, 1, 2, 3, 4, 5, 6] [] [0, 1, 2, 3, 4, 5, 6] (by decide) rfl (wr := []) rfl (by decide) (by decide) (by decide) rfl rfl hl.1 rfl (Nat.le_of_ble_eq_true rfl) dX5_clear_33 ⟨Nat.zero_le _, Nat.zero_le _⟩ (fun H locs hP hD hS => ?_)
      refine lv_aload_n hx hb dX5_clear_36 rfl (lv_at hl 1 rfl) ?_
      refine lv_iconst (v := 0) hx hb dX5_clear_37 (by decide) ?_
      refine pu_R_f5 (v := (0 : Int32)) hx hb hts hi5 hown hK hP hD hS (hts (.fieldLink RX5 157 "InvaderBoardModel" "shifter" "I") (List.mem_cons_of_mem _ (List.mem_append_left _ (List.mem_of_getElem? (i := 3) rfl)))) dX5_clear_38 (fun H locs hP hD hS => ?_)
      refine lv_aload_n hx hb dX5_clear_41 rfl (lv_at hl 1 rfl) ?_
      refine lv_iconst (v := 0) hx hb dX5_clear_42 (by decide) ?_
      refine pu_R_f6 (v := (0 : Int32)) hx hb hts hi5 hown hK hP hD hS (hts (.fieldLink RX5 160 "InvaderBoardModel" "offset" "I") (List.mem_cons_of_mem _ (List.mem_append_left _ (List.mem_of_getElem? (i := 4) rfl)))) dX5_clear_43 (fun H locs hP hD hS => ?_)
      refine lv_aload_n hx hb dX5_clear_46 rfl (lv_at hl 1 rfl) ?_
      refine va_get (ci := 5) (v := .ref (o 25)) (C := RX5) (T := TX5) (N := 24) hx hb hts hi5 hown hK hP 0 rfl rfl 19 (by decide) (hts (.fieldLink RX5 22 "InvaderBoardModel" "latch" "[I") (List.mem_cons_of_mem _ (List.mem_append_left _ (List.mem_of_getElem? (i := 5) rfl)))) (fun _ h9 => h9) rfl dX5_clear_47 ?_
      refine lv_iconst (v := 0) hx hb dX5_clear_50 (by decide) ?_
      refine lv_iconst (v := 0) hx hb dX5_clear_51 (by decide) ?_
      refine pu_R_a4 hx hb hK hP hD hS (by unfold vp_in; decide) dX5_clear_52 (fun H locs hP hD hS => ?_)
      refine lv_aload_n hx hb dX5_clear_53 rfl (lv_at hl 1 rfl) ?_
      refine va_get (ci := 5) (v := .ref (o 25)) (C := RX5) (T := TX5) (N := 24) hx hb hts hi5 hown hK hP 0 rfl rfl 19 (by decide) (hts (.fieldLink RX5 22 "InvaderBoardModel" "latch" "[I") (List.mem_cons_of_mem _ (List.mem_append_left _ (List.mem_of_getElem? (i := 5) rfl)))) (fun _ h9 => h9) rfl dX5_clear_54 ?_
      refine lv_iconst (v := 1) hx hb dX5_clear_57 (by decide) ?_
      refine lv_iconst (v := 0) hx hb dX5_clear_58 (by decide) ?_
      refine pu_R_a4 hx hb hK hP hD hS (by unfold vp_in; decide) dX5_clear_59 (fun H locs hP hD hS => ?_)
      have hP : va_P D vwCl (wR cI o (upd (upd (rSetFlags (upd (upd f 0 (0 : Int32)) 1 (0 : Int32)) (ua a 2 r) (0 : Int32)) 5 (0 : Int32)) 6 (0 : Int32)) (ua (ua (ua a 2 r) 4 (upd (a 4) (0 : Int32).toNatClampNeg (0 : Int32))) 4 (upd (upd (a 4) (0 : Int32).toNatClampNeg (0 : Int32)) (1 : Int32).toNatClampNeg (0 : Int32)))) H := hP
      have hD : va_D A (wR cI o (upd (upd (rSetFlags (upd (upd f 0 (0 : Int32)) 1 (0 : Int32)) (ua a 2 r) (0 : Int32)) 5 (0 : Int32)) 6 (0 : Int32)) (ua (ua (ua a 2 r) 4 (upd (a 4) (0 : Int32).toNatClampNeg (0 : Int32))) 4 (upd (upd (a 4) (0 : Int32).toNatClampNeg (0 : Int32)) (1 : Int32).toNatClampNeg (0 : Int32)))) := hD
      refine lv_aload_n hx hb dX5_clear_60 rfl (lv_at hl 1 rfl) ?_
      refine lv_iconst (v := 0) hx hb dX5_clear_61 (by decide) ?_
      refine pu_R_f2 (v := (0 : Int32)) hx hb hts hi5 hown hK hP hD hS (hts (.fieldLink RX5 148 "InvaderBoardModel" "enabled" "Z") (List.mem_cons_of_mem _ (List.mem_append_left _ (List.mem_of_getElem? (i := 6) rfl)))) (by decide +kernel) (by decide +kernel) dX5_clear_62 (fun H locs hP hD hS => ?_)
      refine lv_aload_n hx hb dX5_clear_65 rfl (lv_at hl 1 rfl) ?_
      refine lv_iconst (v := 0) hx hb dX5_clear_66 (by decide) ?_
      refine pu_R_f3 (v := (0 : Int32)) hx hb hts hi5 hown hK hP hD hS (hts (.fieldLink RX5 154 "InvaderBoardModel" "soon" "Z") (List.mem_cons_of_mem _ (List.mem_append_left _ (List.mem_of_getElem? (i := 7) rfl)))) (by decide +kernel) (by decide +kernel) dX5_clear_67 (fun H locs hP hD hS => ?_)
      refine lv_aload_n hx hb dX5_clear_70 rfl (lv_at hl 1 rfl) ?_
      refine lv_iconst (v := 0) hx hb dX5_clear_71 (by decide) ?_
      refine pu_R_f17 (v := (0 : Int32)) hx hb hts hi5 hown hK hP hD hS (hts (.fieldLink RX5 151 "InvaderBoardModel" "due" "Z") (List.mem_cons_of_mem _ (List.mem_append_left _ (List.mem_of_getElem? (i := 8) rfl)))) (by decide +kernel) (by decide +kernel) dX5_clear_72 (fun H locs hP hD hS => ?_)
      refine lv_aload_n hx hb dX5_clear_75 rfl (lv_at hl 1 rfl) ?_
      refine lv_iconst (v := 0) hx hb dX5_clear_76 (by decide) ?_
      refine pu_R_f4 (v := (0 : Int32)) hx hb hts hi5 hown hK hP hD hS (hts (.fieldLink RX5 82 "InvaderBoardModel" "halted" "Z") (List.mem_cons_of_mem _ (List.mem_append_left _ (List.mem_of_getElem? (i := 9) rfl)))) (by decide +kernel) (by decide +kernel) dX5_clear_77 (fun H locs hP hD hS => ?_)
      refine lv_aload_n hx hb dX5_clear_80 rfl (lv_at hl 1 rfl) ?_
      refine lv_iconst (v := 0) hx hb dX5_clear_81 (by decide) ?_
      refine pu_R_f10 (v := (0 : Int32)) hx hb hts hi5 hown hK hP hD hS (hts (.fieldLink RX5 166 "InvaderBoardModel" "request" "I") (List.mem_cons_of_mem _ (List.mem_append_left _ (List.mem_of_getElem? (i := 10) rfl)))) dX5_clear_82 (fun H locs hP hD hS => ?_)
      refine lv_aload_n hx hb dX5_clear_85 rfl (lv_at hl 1 rfl) ?_
      refine lv_iconst (v := 0) hx hb dX5_clear_86 (by decide) ?_
      refine pu_R_f7 (v := (0 : Int32)) hx hb hts hi5 hown hK hP hD hS (hts (.fieldLink RX5 163 "InvaderBoardModel" "hunger" "I") (List.mem_cons_of_mem _ (List.mem_append_left _ (List.mem_of_getElem? (i := 11) rfl)))) dX5_clear_87 (fun H locs hP hD hS => ?_)
      exact KC.retv hx hb hr hlocks hK hP hD hS dX5_clear_90
    · exact absurd (show (8 : Int32) ≤ nI 8 by decide) c_1
  | succ n ih =>
    intro k hk r H locs hP hD hS ls hl
    refine lv_iload_n hx hb dX5_clear_2 rfl (lv_at hl 0 rfl) ?_
    refine lv_bipush (v := 8) hx hb dX5_clear_3 (by decide) ?_
    refine lv_icmp_ge (tgt := 21) hx hb dX5_clear_5 (by decide) (fun c_2 => ?_) (fun c_2 => ?_)
    · exact absurd c_2 (show ¬ nI 8 ≤ nI k from nI_ge (by omega) (by decide))
    · refine lv_aload_n hx hb dX5_clear_8 rfl (lv_at hl 1 rfl) ?_
      refine va_get (ci := 5) (v := .ref (o 23)) (C := RX5) (T := TX5) (N := 24) hx hb hts hi5 hown hK hP 0 rfl rfl 3 (by decide) (hts (.fieldLink RX5 16 "InvaderBoardModel" "reg" "[I") (List.mem_cons_of_mem _ (List.mem_append_left _ (List.mem_of_getElem? (i := 0) rfl)))) (fun _ h9 => h9) rfl dX5_clear_9 ?_
      refine lv_iload_n hx hb dX5_clear_12 rfl (lv_at hl 0 rfl) ?_
      refine lv_iconst (v := 0) hx hb dX5_clear_13 (by decide) ?_
      refine pu_R_a2 hx hb hK hP hD hS (vp_in_nI (by omega) (by decide)) dX5_clear_14 (fun H locs hP hD hS => ?_)
      have hP : va_P D vwCl (wR cI o f (ua (ua a 2 r) 2 (upd r (nI k).toNatClampNeg (0 : Int32)))) H := hP
      have hD : va_D A (wR cI o f (ua (ua a 2 r) 2 (upd r (nI k).toNatClampNeg (0 : Int32)))) := hD
      refine lv_iinc (v := (nI k) + (1 : Int32)) (lv' := [(1, .int _), (0, .ref _)]) hx hb dX5_clear_15 hl (k := 0) rfl rfl (by decide) rfl (fun ls hl => ?_)
      refine lv_goto (tgt := 2) hx hb dX5_clear_18 (by decide) ?_
      rw [nI_1] at hl
      have hP : va_P D vwCl (wR cI o f (ua a 2 (upd r (nI k).toNatClampNeg (0 : Int32)))) H := hP
      have hD : va_D A (wR cI o f (ua a 2 (upd r (nI k).toNatClampNeg (0 : Int32)))) := hD
      exact ih (k + 1) (by omega) _ H locs hP hD hS ls (lv_sub hl [0, 1] rfl)
def rClear (f : Nat → Int32) (a : Nat → Nat → Int32)  : (Nat → Int32) × (Nat → Nat → Int32) :=
  (rClearF f a (xZeros 8 0 (a 2)), rClearA a (xZeros 8 0 (a 2)))
set_option maxHeartbeats 4000000 in
set_option maxRecDepth 100000 in
theorem kX5_clear (l : Launch) (D : va_G) (cI : ClassId) (o : Nat → Nat) (f : Nat → Int32) (a : Nat → Nat → Int32)  : KC l yX5_clear wsX5_clear 1 [.ref (o 20)] D cI (wR cI o f a) (wR cI o ((rClear f a).1) ((rClear f a).2)) none := by
  refine KC.of (cc := cX5_clear) (maxL := 2) (by decide) rfl (Nat.le_of_ble_eq_true rfl) ?_
  intro p e s m below meth c A hx hb hr hts hown hlocks hml hK hP hD hS hA ls hl
  have hl : lv_has ls 2 [(0, .ref (o 20))] := hl
  have hown : s.vm.findClass RX5 = some m.cls := hown
  refine lv_iconst (v := 0) hx hb dX5_clear_0 (by decide) ?_
  refine lv_istore_n (lv' := [(1, .int _), (0, .ref _)]) hx hb dX5_clear_1 rfl hl (by decide) rfl (fun ls hl => ?_)
  have hF : rClear f a = (rClearF f a (xZeros 8 0 (a 2)), rClearA a (xZeros 8 0 (a 2))) := rfl
  rw [hF]
  exact lpX5_clear hx hb hr hts hown hlocks hml hK hA 8 0 (by omega) (a 2) _ _ (show va_P D vwCl (wR cI o f (ua a 2 (a 2))) _ from hP) (show va_D A (wR cI o f (ua a 2 (a 2))) from hD) hS ls (lv_sub hl [0, 1] rfl)
def rReset (f : Nat → Int32) (a : Nat → Nat → Int32)  : (Nat → Int32) × (Nat → Nat → Int32) :=
  (match rClear (upd f 11 (0 : Int32)) a with
  | (f_1, a_1) => (upd f_1 8 (0 : Int32), a_1))
set_option maxHeartbeats 4000000 in
set_option maxRecDepth 100000 in
theorem kX5_reset (l : Launch) (D : va_G) (cI : ClassId) (o : Nat → Nat) (f : Nat → Int32) (a : Nat → Nat → Int32)  : KC l yX5_reset wsX5_reset 2 [.ref (o 20)] D cI (wR cI o f a) (wR cI o ((rReset f a).1) ((rReset f a).2)) none := by
  refine KC.of (cc := cX5_reset) (maxL := 1) (by decide) rfl (Nat.le_of_ble_eq_true rfl) ?_
  intro p e s m below meth c A hx hb hr hts hown hlocks hml hK hP hD hS hA ls hl
  have hl : lv_has ls 1 [(0, .ref (o 20))] := hl
  have hown : s.vm.findClass RX5 = some m.cls := hown
  have hi5 : ∀ w ∈ u_ws RX5 TX5 24, w ∈ wsX5_reset := fun w h => List.mem_cons_of_mem _ (List.mem_append_right _ h)
  refine lv_aload_n hx hb dX5_reset_0 rfl (lv_at hl 0 rfl) ?_
  refine lv_iconst (v := 0) hx hb dX5_reset_1 (by decide) ?_
  refine pu_R_f11 (v := (0 : Int32)) hx hb hts hi5 hown hK hP hD hS (hts (.fieldLink RX5 28 "InvaderBoardModel" "code" "I") (List.mem_cons_of_mem _ (List.mem_append_left _ (List.mem_append_left _ (List.mem_of_getElem? (i := 0) rfl))))) dX5_reset_2 (fun H locs hP hD hS => ?_)
  refine lv_aload_n hx hb dX5_reset_5 rfl (lv_at hl 0 rfl) ?_
  obtain ⟨f_1, a_1, hB_1⟩ := k_ex2 (rClear (upd f 11 (0 : Int32)) a)
  have kc_1 := kX5_clear l D cI o (upd f 11 (0 : Int32)) a
  rw [hB_1] at kc_1; dsimp only at kc_1
  refine KC.callv (ci := 5) (rest := []) (wt := wR cI o f_1 a_1) (kc_1) (cwV 0 hts gX5_reset_X5_clear rfl rfl rfl (by decide +kernel) ⟨Nat.le_of_ble_eq_true rfl, Nat.le_of_ble_eq_true rfl⟩) ⟨hx, hb, hml, hown, hts⟩ hK hP hD hS hA rfl rfl rfl [0, 1, 2, 3, 4, 5, 6] [] [0, 1, 2, 3, 4, 5, 6] (by decide) rfl (wr := []) rfl (by decide) (by decide) (by decide) rfl rfl hl.1 rfl (Nat.le_of_ble_eq_true rfl) dX5_reset_6 ⟨Nat.zero_le _, Nat.zero_le _⟩ (fun H locs hP hD hS => ?_)
  refine lv_aload_n hx hb dX5_reset_9 rfl (lv_at hl 0 rfl) ?_
  refine lv_iconst (v := 0) hx hb dX5_reset_10 (by decide) ?_
  refine pu_R_f8 (v := (0 : Int32)) hx hb hts hi5 hown hK hP hD hS (hts (.fieldLink RX5 175 "InvaderBoardModel" "states" "I") (List.mem_cons_of_mem _ (List.mem_append_left _ (List.mem_append_left _ (List.mem_of_getElem? (i := 1) rfl))))) dX5_reset_11 (fun H locs hP hD hS => ?_)
  have hF : rReset f a = (upd f_1 8 (0 : Int32), a_1) := by
    unfold rReset
    rewrite [hB_1]
    rfl
  rw [hF]
  exact KC.retv hx hb hr hlocks hK hP hD hS dX5_reset_14
def rInput (f : Nat → Int32) (a : Nat → Nat → Int32) (p1 : Int32) (p2 : Int32) : (Nat → Int32) × (Nat → Nat → Int32) :=
  if p1 < 0 then (upd f 11 (1 : Int32), a)
  else if p1 ≤ (2 : Int32) then (upd f 11 (0 : Int32), ua a 3 (upd (a 3) p1.toNatClampNeg (p2 &&& (255 : Int32))))
    else (upd f 11 (1 : Int32), a)
set_option maxHeartbeats 4000000 in
set_option maxRecDepth 100000 in
theorem kX5_input (l : Launch) (D : va_G) (cI : ClassId) (o : Nat → Nat) (f : Nat → Int32) (a : Nat → Nat → Int32) (p1 : Int32) (p2 : Int32) : KC l yX5_input wsX5_input 0 [.ref (o 20), .int p1, .int p2] D cI (wR cI o f a) (wR cI o ((rInput f a p1 p2).1) ((rInput f a p1 p2).2)) none := by
  refine KC.of (cc := cX5_input) (maxL := 3) (by decide) rfl (Nat.le_of_ble_eq_true rfl) ?_
  intro p e s m below meth c A hx hb hr hts hown hlocks hml hK hP hD hS hA ls hl
  have hl : lv_has ls 3 [(0, .ref (o 20)), (1, .int p1), (2, .int p2)] := hl
  have hown : s.vm.findClass RX5 = some m.cls := hown
  have hi5 : ∀ w ∈ u_ws RX5 TX5 24, w ∈ wsX5_input := fun w h => List.mem_cons_of_mem _ (List.mem_append_right _ h)
  refine lv_aload_n hx hb dX5_input_0 rfl (lv_at hl 0 rfl) ?_
  refine lv_iload_n hx hb dX5_input_1 rfl (lv_at hl 1 rfl) ?_
  refine lv_if_lt (tgt := 10) hx hb dX5_input_2 (by decide) (fun c_1 => ?_) (fun c_1 => ?_)
  · refine lv_iconst (v := 1) hx hb dX5_input_10 (by decide) ?_
    refine lv_goto (tgt := 15) hx hb dX5_input_11 (by decide) ?_
    refine pu_R_f11 (v := (1 : Int32)) hx hb hts hi5 hown hK hP hD hS (hts (.fieldLink RX5 28 "InvaderBoardModel" "code" "I") (List.mem_cons_of_mem _ (List.mem_append_left _ (List.mem_of_getElem? (i := 0) rfl)))) dX5_input_15 (fun H locs hP hD hS => ?_)
    refine lv_aload_n hx hb dX5_input_18 rfl (lv_at hl 0 rfl) ?_
    refine va_get (ci := 5) (v := .int (1 : Int32)) (C := RX5) (T := TX5) (N := 24) hx hb hts hi5 hown hK hP 0 rfl rfl 0 (by decide) (hts (.fieldLink RX5 28 "InvaderBoardModel" "code" "I") (List.mem_cons_of_mem _ (List.mem_append_left _ (List.mem_of_getElem? (i := 0) rfl)))) (fun _ h9 => h9) rfl dX5_input_19 ?_
    refine lv_if_ne (tgt := 36) hx hb dX5_input_22 (by decide) (fun c_2 => ?_) (fun c_2 => ?_)
    · have hF : rInput f a p1 p2 = (upd f 11 (1 : Int32), a) := by
        unfold rInput
        refine (if_pos c_1).trans ?_
        rfl
      rw [hF]
      exact KC.retv hx hb hr hlocks hK hP hD hS dX5_input_36
    · exact absurd c_2 (by decide)
  · refine lv_iload_n hx hb dX5_input_5 rfl (lv_at hl 1 rfl) ?_
    refine lv_iconst (v := 2) hx hb dX5_input_6 (by decide) ?_
    refine lv_icmp_le (tgt := 14) hx hb dX5_input_7 (by decide) (fun c_3 => ?_) (fun c_3 => ?_)
    · refine lv_iconst (v := 0) hx hb dX5_input_14 (by decide) ?_
      refine pu_R_f11 (v := (0 : Int32)) hx hb hts hi5 hown hK hP hD hS (hts (.fieldLink RX5 28 "InvaderBoardModel" "code" "I") (List.mem_cons_of_mem _ (List.mem_append_left _ (List.mem_of_getElem? (i := 0) rfl)))) dX5_input_15 (fun H locs hP hD hS => ?_)
      refine lv_aload_n hx hb dX5_input_18 rfl (lv_at hl 0 rfl) ?_
      refine va_get (ci := 5) (v := .int (0 : Int32)) (C := RX5) (T := TX5) (N := 24) hx hb hts hi5 hown hK hP 0 rfl rfl 0 (by decide) (hts (.fieldLink RX5 28 "InvaderBoardModel" "code" "I") (List.mem_cons_of_mem _ (List.mem_append_left _ (List.mem_of_getElem? (i := 0) rfl)))) (fun _ h9 => h9) rfl dX5_input_19 ?_
      refine lv_if_ne (tgt := 36) hx hb dX5_input_22 (by decide) (fun c_4 => ?_) (fun c_4 => ?_)
      · exact absurd c_4 (by decide)
      · refine lv_aload_n hx hb dX5_input_25 rfl (lv_at hl 0 rfl) ?_
        refine va_get (ci := 5) (v := .ref (o 24)) (C := RX5) (T := TX5) (N := 24) hx hb hts hi5 hown hK hP 0 rfl rfl 16 (by decide) (hts (.fieldLink RX5 19 "InvaderBoardModel" "inputs" "[I") (List.mem_cons_of_mem _ (List.mem_append_left _ (List.mem_of_getElem? (i := 1) rfl)))) (fun _ h9 => h9) rfl dX5_input_26 ?_
        refine lv_iload_n hx hb dX5_input_29 rfl (lv_at hl 1 rfl) ?_
        refine lv_iload_n hx hb dX5_input_30 rfl (lv_at hl 2 rfl) ?_
        refine lv_sipush (v := 255) hx hb dX5_input_31 (by decide) ?_
        refine lv_iand hx hb dX5_input_34 ?_
        refine pu_R_a3 hx hb hK hP hD hS (xin_le 2 (by decide) c_1 c_3) dX5_input_35 (fun H locs hP hD hS => ?_)
        have hF : rInput f a p1 p2 = (upd f 11 (0 : Int32), ua a 3 (upd (a 3) p1.toNatClampNeg (p2 &&& (255 : Int32)))) := by
          unfold rInput
          refine (if_neg c_1).trans ?_
          refine (if_pos c_3).trans ?_
          rfl
        rw [hF]
        exact KC.retv hx hb hr hlocks hK hP hD hS dX5_input_36
    · refine lv_iconst (v := 1) hx hb dX5_input_10 (by decide) ?_
      refine lv_goto (tgt := 15) hx hb dX5_input_11 (by decide) ?_
      refine pu_R_f11 (v := (1 : Int32)) hx hb hts hi5 hown hK hP hD hS (hts (.fieldLink RX5 28 "InvaderBoardModel" "code" "I") (List.mem_cons_of_mem _ (List.mem_append_left _ (List.mem_of_getElem? (i := 0) rfl)))) dX5_input_15 (fun H locs hP hD hS => ?_)
      refine lv_aload_n hx hb dX5_input_18 rfl (lv_at hl 0 rfl) ?_
      refine va_get (ci := 5) (v := .int (1 : Int32)) (C := RX5) (T := TX5) (N := 24) hx hb hts hi5 hown hK hP 0 rfl rfl 0 (by decide) (hts (.fieldLink RX5 28 "InvaderBoardModel" "code" "I") (List.mem_cons_of_mem _ (List.mem_append_left _ (List.mem_of_getElem? (i := 0) rfl)))) (fun _ h9 => h9) rfl dX5_input_19 ?_
      refine lv_if_ne (tgt := 36) hx hb dX5_input_22 (by decide) (fun c_5 => ?_) (fun c_5 => ?_)
      · have hF : rInput f a p1 p2 = (upd f 11 (1 : Int32), a) := by
          unfold rInput
          refine (if_neg c_1).trans ?_
          refine (if_neg c_3).trans ?_
          rfl
        rw [hF]
        exact KC.retv hx hb hr hlocks hK hP hD hS dX5_input_36
      · exact absurd c_5 (by decide)
def rRegister (f : Nat → Int32) (a : Nat → Nat → Int32) (p1 : Int32) : Int32 × (Nat → Int32) :=
  if p1 < 0 then ((0 : Int32), upd f 11 (1 : Int32))
  else if p1 ≤ (11 : Int32) then if p1 = (6 : Int32) then (rFlags (upd f 11 (0 : Int32)) a, upd f 11 (0 : Int32))
      else if (8 : Int32) ≤ p1 then if p1 = (8 : Int32) then (f 0, upd f 11 (0 : Int32))
          else if p1 = (9 : Int32) then (f 1, upd f 11 (0 : Int32))
            else if p1 = (10 : Int32) then if f 2 = 0 then ((0 : Int32), upd f 11 (0 : Int32))
                else ((1 : Int32), upd f 11 (0 : Int32))
              else if f 4 = 0 then ((0 : Int32), upd f 11 (0 : Int32))
                else ((1 : Int32), upd f 11 (0 : Int32))
        else ((a 2) p1.toNatClampNeg, upd f 11 (0 : Int32))
    else ((0 : Int32), upd f 11 (1 : Int32))
set_option maxHeartbeats 4000000 in
set_option maxRecDepth 100000 in
theorem kX5_register (l : Launch) (D : va_G) (cI : ClassId) (o : Nat → Nat) (f : Nat → Int32) (a : Nat → Nat → Int32) (p1 : Int32) : KC l yX5_register wsX5_register 1 [.ref (o 20), .int p1] D cI (wR cI o f a) (wR cI o ((rRegister f a p1).2) a) (some (.int (rRegister f a p1).1)) := by
  refine KC.of (cc := cX5_register) (maxL := 2) (by decide) rfl (Nat.le_of_ble_eq_true rfl) ?_
  intro p e s m below meth c A hx hb hr hts hown hlocks hml hK hP hD hS hA ls hl
  have hl : lv_has ls 2 [(0, .ref (o 20)), (1, .int p1)] := hl
  have hown : s.vm.findClass RX5 = some m.cls := hown
  have hi5 : ∀ w ∈ u_ws RX5 TX5 24, w ∈ wsX5_register := fun w h => List.mem_cons_of_mem _ (List.mem_append_right _ h)
  refine lv_aload_n hx hb dX5_register_0 rfl (lv_at hl 0 rfl) ?_
  refine lv_iload_n hx hb dX5_register_1 rfl (lv_at hl 1 rfl) ?_
  refine lv_if_lt (tgt := 11) hx hb dX5_register_2 (by decide) (fun c_1 => ?_) (fun c_1 => ?_)
  · refine lv_iconst (v := 1) hx hb dX5_register_11 (by decide) ?_
    refine lv_goto (tgt := 16) hx hb dX5_register_12 (by decide) ?_
    refine pu_R_f11 (v := (1 : Int32)) hx hb hts hi5 hown hK hP hD hS (hts (.fieldLink RX5 28 "InvaderBoardModel" "code" "I") (List.mem_cons_of_mem _ (List.mem_append_left _ (List.mem_of_getElem? (i := 0) rfl)))) dX5_register_16 (fun H locs hP hD hS => ?_)
    refine lv_aload_n hx hb dX5_register_19 rfl (lv_at hl 0 rfl) ?_
    refine va_get (ci := 5) (v := .int (1 : Int32)) (C := RX5) (T := TX5) (N := 24) hx hb hts hi5 hown hK hP 0 rfl rfl 0 (by decide) (hts (.fieldLink RX5 28 "InvaderBoardModel" "code" "I") (List.mem_cons_of_mem _ (List.mem_append_left _ (List.mem_of_getElem? (i := 0) rfl)))) (fun _ h9 => h9) rfl dX5_register_20 ?_
    refine lv_if_le (tgt := 28) hx hb dX5_register_23 (by decide) (fun c_2 => ?_) (fun c_2 => ?_)
    · exact absurd c_2 (by decide)
    · refine lv_iconst (v := 0) hx hb dX5_register_26 (by decide) ?_
      have hF : rRegister f a p1 = ((0 : Int32), upd f 11 (1 : Int32)) := by
        unfold rRegister
        refine (if_pos c_1).trans ?_
        rfl
      rw [hF]
      exact KC.reti hx hb hr hlocks hK hP hD hS dX5_register_27 rfl
  · refine lv_iload_n hx hb dX5_register_5 rfl (lv_at hl 1 rfl) ?_
    refine lv_bipush (v := 11) hx hb dX5_register_6 (by decide) ?_
    refine lv_icmp_le (tgt := 15) hx hb dX5_register_8 (by decide) (fun c_3 => ?_) (fun c_3 => ?_)
    · refine lv_iconst (v := 0) hx hb dX5_register_15 (by decide) ?_
      refine pu_R_f11 (v := (0 : Int32)) hx hb hts hi5 hown hK hP hD hS (hts (.fieldLink RX5 28 "InvaderBoardModel" "code" "I") (List.mem_cons_of_mem _ (List.mem_append_left _ (List.mem_of_getElem? (i := 0) rfl)))) dX5_register_16 (fun H locs hP hD hS => ?_)
      refine lv_aload_n hx hb dX5_register_19 rfl (lv_at hl 0 rfl) ?_
      refine va_get (ci := 5) (v := .int (0 : Int32)) (C := RX5) (T := TX5) (N := 24) hx hb hts hi5 hown hK hP 0 rfl rfl 0 (by decide) (hts (.fieldLink RX5 28 "InvaderBoardModel" "code" "I") (List.mem_cons_of_mem _ (List.mem_append_left _ (List.mem_of_getElem? (i := 0) rfl)))) (fun _ h9 => h9) rfl dX5_register_20 ?_
      refine lv_if_le (tgt := 28) hx hb dX5_register_23 (by decide) (fun c_4 => ?_) (fun c_4 => ?_)
      · refine lv_iload_n hx hb dX5_register_28 rfl (lv_at hl 1 rfl) ?_
        refine lv_bipush (v := 6) hx hb dX5_register_29 (by decide) ?_
        refine lv_icmp_ne (tgt := 39) hx hb dX5_register_31 (by decide) (fun c_5 => ?_) (fun c_5 => ?_)
        · refine lv_iload_n hx hb dX5_register_39 rfl (lv_at hl 1 rfl) ?_
          refine lv_bipush (v := 8) hx hb dX5_register_40 (by decide) ?_
          refine lv_icmp_ge (tgt := 52) hx hb dX5_register_42 (by decide) (fun c_6 => ?_) (fun c_6 => ?_)
          · refine lv_iload_n hx hb dX5_register_52 rfl (lv_at hl 1 rfl) ?_
            refine lv_bipush (v := 8) hx hb dX5_register_53 (by decide) ?_
            refine lv_icmp_ne (tgt := 65) hx hb dX5_register_55 (by decide) (fun c_7 => ?_) (fun c_7 => ?_)
            · refine lv_iload_n hx hb dX5_register_65 rfl (lv_at hl 1 rfl) ?_
              refine lv_bipush (v := 9) hx hb dX5_register_66 (by decide) ?_
              refine lv_icmp_ne (tgt := 78) hx hb dX5_register_68 (by decide) (fun c_8 => ?_) (fun c_8 => ?_)
              · refine lv_iload_n hx hb dX5_register_78 rfl (lv_at hl 1 rfl) ?_
                refine lv_bipush (v := 10) hx hb dX5_register_79 (by decide) ?_
                refine lv_icmp_ne (tgt := 99) hx hb dX5_register_81 (by decide) (fun c_9 => ?_) (fun c_9 => ?_)
                · refine lv_aload_n hx hb dX5_register_99 rfl (lv_at hl 0 rfl) ?_
                  refine va_get (ci := 5) (v := .int (f 4)) (C := RX5) (T := TX5) (N := 24) hx hb hts hi5 hown hK hP 0 rfl rfl 14 (by decide) (hts (.fieldLink RX5 82 "InvaderBoardModel" "halted" "Z") (List.mem_cons_of_mem _ (List.mem_append_left _ (List.mem_of_getElem? (i := 5) rfl)))) (fun _ h9 => h9) rfl dX5_register_100 ?_
                  refine lv_if_eq (tgt := 110) hx hb dX5_register_103 (by decide) (fun c_10 => ?_) (fun c_10 => ?_)
                  · refine lv_iconst (v := 0) hx hb dX5_register_110 (by decide) ?_
                    have hF : rRegister f a p1 = ((0 : Int32), upd f 11 (0 : Int32)) := by
                      unfold rRegister
                      refine (if_neg c_1).trans ?_
                      refine (if_pos c_3).trans ?_
                      refine (if_neg c_5).trans ?_
                      refine (if_pos c_6).trans ?_
                      refine (if_neg c_7).trans ?_
                      refine (if_neg c_8).trans ?_
                      refine (if_neg c_9).trans ?_
                      refine (if_pos c_10).trans ?_
                      rfl
                    rw [hF]
                    exact KC.reti hx hb hr hlocks hK hP hD hS dX5_register_111 rfl
                  · refine lv_iconst (v := 1) hx hb dX5_register_106 (by decide) ?_
                    refine lv_goto (tgt := 111) hx hb dX5_register_107 (by decide) ?_
                    have hF : rRegister f a p1 = ((1 : Int32), upd f 11 (0 : Int32)) := by
                      unfold rRegister
                      refine (if_neg c_1).trans ?_
                      refine (if_pos c_3).trans ?_
                      refine (if_neg c_5).trans ?_
                      refine (if_pos c_6).trans ?_
                      refine (if_neg c_7).trans ?_
                      refine (if_neg c_8).trans ?_
                      refine (if_neg c_9).trans ?_
                      refine (if_neg c_10).trans ?_
                      rfl
                    rw [hF]
                    exact KC.reti hx hb hr hlocks hK hP hD hS dX5_register_111 rfl
                · refine lv_aload_n hx hb dX5_register_84 rfl (lv_at hl 0 rfl) ?_
                  refine va_get (ci := 5) (v := .int (f 2)) (C := RX5) (T := TX5) (N := 24) hx hb hts hi5 hown hK hP 0 rfl rfl 11 (by decide) (hts (.fieldLink RX5 148 "InvaderBoardModel" "enabled" "Z") (List.mem_cons_of_mem _ (List.mem_append_left _ (List.mem_of_getElem? (i := 4) rfl)))) (fun _ h9 => h9) rfl dX5_register_85 ?_
                  refine lv_if_eq (tgt := 95) hx hb dX5_register_88 (by decide) (fun c_11 => ?_) (fun c_11 => ?_)
                  · refine lv_iconst (v := 0) hx hb dX5_register_95 (by decide) ?_
                    refine lv_goto (tgt := 111) hx hb dX5_register_96 (by decide) ?_
                    have hF : rRegister f a p1 = ((0 : Int32), upd f 11 (0 : Int32)) := by
                      unfold rRegister
                      refine (if_neg c_1).trans ?_
                      refine (if_pos c_3).trans ?_
                      refine (if_neg c_5).trans ?_
                      refine (if_pos c_6).trans ?_
                      refine (if_neg c_7).trans ?_
                      refine (if_neg c_8).trans ?_
                      refine (if_pos c_9).trans ?_
                      refine (if_pos c_11).trans ?_
                      rfl
                    rw [hF]
                    exact KC.reti hx hb hr hlocks hK hP hD hS dX5_register_111 rfl
                  · refine lv_iconst (v := 1) hx hb dX5_register_91 (by decide) ?_
                    refine lv_goto (tgt := 111) hx hb dX5_register_92 (by decide) ?_
                    have hF : rRegister f a p1 = ((1 : Int32), upd f 11 (0 : Int32)) := by
                      unfold rRegister
                      refine (if_neg c_1).trans ?_
                      refine (if_pos c_3).trans ?_
                      refine (if_neg c_5).trans ?_
                      refine (if_pos c_6).trans ?_
                      refine (if_neg c_7).trans ?_
                      refine (if_neg c_8).trans ?_
                      refine (if_pos c_9).trans ?_
                      refine (if_neg c_11).trans ?_
                      rfl
                    rw [hF]
                    exact KC.reti hx hb hr hlocks hK hP hD hS dX5_register_111 rfl
              · refine lv_aload_n hx hb dX5_register_71 rfl (lv_at hl 0 rfl) ?_
                refine va_get (ci := 5) (v := .int (f 1)) (C := RX5) (T := TX5) (N := 24) hx hb hts hi5 hown hK hP 0 rfl rfl 5 (by decide) (hts (.fieldLink RX5 33 "InvaderBoardModel" "pc" "I") (List.mem_cons_of_mem _ (List.mem_append_left _ (List.mem_of_getElem? (i := 3) rfl)))) (fun _ h9 => h9) rfl dX5_register_72 ?_
                refine lv_goto (tgt := 111) hx hb dX5_register_75 (by decide) ?_
                have hF : rRegister f a p1 = (f 1, upd f 11 (0 : Int32)) := by
                  unfold rRegister
                  refine (if_neg c_1).trans ?_
                  refine (if_pos c_3).trans ?_
                  refine (if_neg c_5).trans ?_
                  refine (if_pos c_6).trans ?_
                  refine (if_neg c_7).trans ?_
                  refine (if_pos c_8).trans ?_
                  rfl
                rw [hF]
                exact KC.reti hx hb hr hlocks hK hP hD hS dX5_register_111 rfl
            · refine lv_aload_n hx hb dX5_register_58 rfl (lv_at hl 0 rfl) ?_
              refine va_get (ci := 5) (v := .int (f 0)) (C := RX5) (T := TX5) (N := 24) hx hb hts hi5 hown hK hP 0 rfl rfl 4 (by decide) (hts (.fieldLink RX5 44 "InvaderBoardModel" "sp" "I") (List.mem_cons_of_mem _ (List.mem_append_left _ (List.mem_of_getElem? (i := 2) rfl)))) (fun _ h9 => h9) rfl dX5_register_59 ?_
              refine lv_goto (tgt := 111) hx hb dX5_register_62 (by decide) ?_
              have hF : rRegister f a p1 = (f 0, upd f 11 (0 : Int32)) := by
                unfold rRegister
                refine (if_neg c_1).trans ?_
                refine (if_pos c_3).trans ?_
                refine (if_neg c_5).trans ?_
                refine (if_pos c_6).trans ?_
                refine (if_pos c_7).trans ?_
                rfl
              rw [hF]
              exact KC.reti hx hb hr hlocks hK hP hD hS dX5_register_111 rfl
          · refine lv_aload_n hx hb dX5_register_45 rfl (lv_at hl 0 rfl) ?_
            refine va_get (ci := 5) (v := .ref (o 23)) (C := RX5) (T := TX5) (N := 24) hx hb hts hi5 hown hK hP 0 rfl rfl 3 (by decide) (hts (.fieldLink RX5 16 "InvaderBoardModel" "reg" "[I") (List.mem_cons_of_mem _ (List.mem_append_left _ (List.mem_of_getElem? (i := 1) rfl)))) (fun _ h9 => h9) rfl dX5_register_46 ?_
            refine lv_iload_n hx hb dX5_register_49 rfl (lv_at hl 1 rfl) ?_
            refine va_iald (f := a 2) hx hb hK hP 3 0 rfl rfl (xin 8 (by decide) c_1 c_6) dX5_register_50 ?_
            have hF : rRegister f a p1 = ((a 2) p1.toNatClampNeg, upd f 11 (0 : Int32)) := by
              unfold rRegister
              refine (if_neg c_1).trans ?_
              refine (if_pos c_3).trans ?_
              refine (if_neg c_5).trans ?_
              refine (if_neg c_6).trans ?_
              rfl
            rw [hF]
            exact KC.reti hx hb hr hlocks hK hP hD hS dX5_register_51 rfl
        · refine lv_aload_n hx hb dX5_register_34 rfl (lv_at hl 0 rfl) ?_
          refine KC.calli (ci := 5) (rest := []) (wt := wR cI o (upd f 11 (0 : Int32)) a) (kX5_flags l D cI o (upd f 11 (0 : Int32)) a) (cwV 0 hts gX5_register_X5_flags rfl rfl rfl (by decide +kernel) ⟨Nat.le_of_ble_eq_true rfl, Nat.le_of_ble_eq_true rfl⟩) ⟨hx, hb, hml, hown, hts⟩ hK hP hD hS hA rfl rfl rfl [0, 1, 2, 3, 4, 5, 6] [] [0, 1, 2, 3, 4, 5, 6] (by decide) rfl (wr := []) rfl (by decide) (by decide) (by decide) rfl rfl hl.1 rfl (Nat.le_of_ble_eq_true rfl) dX5_register_35 ⟨Nat.zero_le _, Nat.zero_le _⟩ (fun H locs hP hD hS => ?_)
          have hF : rRegister f a p1 = (rFlags (upd f 11 (0 : Int32)) a, upd f 11 (0 : Int32)) := by
            unfold rRegister
            refine (if_neg c_1).trans ?_
            refine (if_pos c_3).trans ?_
            refine (if_pos c_5).trans ?_
            rfl
          rw [hF]
          exact KC.reti hx hb hr hlocks hK hP hD hS dX5_register_38 rfl
      · exact absurd c_4 (by decide)
    · refine lv_iconst (v := 1) hx hb dX5_register_11 (by decide) ?_
      refine lv_goto (tgt := 16) hx hb dX5_register_12 (by decide) ?_
      refine pu_R_f11 (v := (1 : Int32)) hx hb hts hi5 hown hK hP hD hS (hts (.fieldLink RX5 28 "InvaderBoardModel" "code" "I") (List.mem_cons_of_mem _ (List.mem_append_left _ (List.mem_of_getElem? (i := 0) rfl)))) dX5_register_16 (fun H locs hP hD hS => ?_)
      refine lv_aload_n hx hb dX5_register_19 rfl (lv_at hl 0 rfl) ?_
      refine va_get (ci := 5) (v := .int (1 : Int32)) (C := RX5) (T := TX5) (N := 24) hx hb hts hi5 hown hK hP 0 rfl rfl 0 (by decide) (hts (.fieldLink RX5 28 "InvaderBoardModel" "code" "I") (List.mem_cons_of_mem _ (List.mem_append_left _ (List.mem_of_getElem? (i := 0) rfl)))) (fun _ h9 => h9) rfl dX5_register_20 ?_
      refine lv_if_le (tgt := 28) hx hb dX5_register_23 (by decide) (fun c_12 => ?_) (fun c_12 => ?_)
      · exact absurd c_12 (by decide)
      · refine lv_iconst (v := 0) hx hb dX5_register_26 (by decide) ?_
        have hF : rRegister f a p1 = ((0 : Int32), upd f 11 (1 : Int32)) := by
          unfold rRegister
          refine (if_neg c_1).trans ?_
          refine (if_neg c_3).trans ?_
          rfl
        rw [hF]
        exact KC.reti hx hb hr hlocks hK hP hD hS dX5_register_27 rfl
def rMemory (f : Nat → Int32) (a : Nat → Nat → Int32) (p1 : Int32) : Int32 × (Nat → Int32) :=
  (rRead (upd f 11 (0 : Int32)) a p1, upd f 11 (0 : Int32))
set_option maxHeartbeats 4000000 in
set_option maxRecDepth 100000 in
theorem kX5_memory (l : Launch) (D : va_G) (cI : ClassId) (o : Nat → Nat) (f : Nat → Int32) (a : Nat → Nat → Int32) (p1 : Int32) : KC l yX5_memory wsX5_memory 1 [.ref (o 20), .int p1] D cI (wR cI o f a) (wR cI o ((rMemory f a p1).2) a) (some (.int (rMemory f a p1).1)) := by
  refine KC.of (cc := cX5_memory) (maxL := 2) (by decide) rfl (Nat.le_of_ble_eq_true rfl) ?_
  intro p e s m below meth c A hx hb hr hts hown hlocks hml hK hP hD hS hA ls hl
  have hl : lv_has ls 2 [(0, .ref (o 20)), (1, .int p1)] := hl
  have hown : s.vm.findClass RX5 = some m.cls := hown
  have hi5 : ∀ w ∈ u_ws RX5 TX5 24, w ∈ wsX5_memory := fun w h => List.mem_cons_of_mem _ (List.mem_append_right _ h)
  refine lv_aload_n hx hb dX5_memory_0 rfl (lv_at hl 0 rfl) ?_
  refine lv_iconst (v := 0) hx hb dX5_memory_1 (by decide) ?_
  refine pu_R_f11 (v := (0 : Int32)) hx hb hts hi5 hown hK hP hD hS (hts (.fieldLink RX5 28 "InvaderBoardModel" "code" "I") (List.mem_cons_of_mem _ (List.mem_append_left _ (List.mem_of_getElem? (i := 0) rfl)))) dX5_memory_2 (fun H locs hP hD hS => ?_)
  refine lv_aload_n hx hb dX5_memory_5 rfl (lv_at hl 0 rfl) ?_
  refine lv_iload_n hx hb dX5_memory_6 rfl (lv_at hl 1 rfl) ?_
  refine KC.calli (ci := 5) (rest := []) (wt := wR cI o (upd f 11 (0 : Int32)) a) (kX5_read l D cI o (upd f 11 (0 : Int32)) a p1) (cwV 1 hts gX5_memory_X5_read rfl rfl rfl (by decide +kernel) ⟨Nat.le_of_ble_eq_true rfl, Nat.le_of_ble_eq_true rfl⟩) ⟨hx, hb, hml, hown, hts⟩ hK hP hD hS hA rfl rfl rfl [0, 1, 2, 3, 4, 5, 6] [] [0, 1, 2, 3, 4, 5, 6] (by decide) rfl (wr := []) rfl (by decide) (by decide) (by decide) rfl rfl hl.1 rfl (Nat.le_of_ble_eq_true rfl) dX5_memory_7 ⟨Nat.zero_le _, Nat.zero_le _⟩ (fun H locs hP hD hS => ?_)
  have hF : rMemory f a p1 = (rRead (upd f 11 (0 : Int32)) a p1, upd f 11 (0 : Int32)) := rfl
  rw [hF]
  exact KC.reti hx hb hr hlocks hK hP hD hS dX5_memory_10 rfl
def rPoke (f : Nat → Int32) (a : Nat → Nat → Int32) (p1 : Int32) (p2 : Int32) : Int32 × (Nat → Int32) × (Nat → Nat → Int32) :=
  (rRead (upd f 11 (0 : Int32)) (ua a 1 (rWrite (upd f 11 (0 : Int32)) a p1 p2)) p1, upd f 11 (0 : Int32), ua a 1 (rWrite (upd f 11 (0 : Int32)) a p1 p2))
set_option maxHeartbeats 4000000 in
set_option maxRecDepth 100000 in
theorem kX5_poke (l : Launch) (D : va_G) (cI : ClassId) (o : Nat → Nat) (f : Nat → Int32) (a : Nat → Nat → Int32) (p1 : Int32) (p2 : Int32) : KC l yX5_poke wsX5_poke 1 [.ref (o 20), .int p1, .int p2] D cI (wR cI o f a) (wR cI o ((rPoke f a p1 p2).2.1) ((rPoke f a p1 p2).2.2)) (some (.int (rPoke f a p1 p2).1)) := by
  refine KC.of (cc := cX5_poke) (maxL := 3) (by decide) rfl (Nat.le_of_ble_eq_true rfl) ?_
  intro p e s m below meth c A hx hb hr hts hown hlocks hml hK hP hD hS hA ls hl
  have hl : lv_has ls 3 [(0, .ref (o 20)), (1, .int p1), (2, .int p2)] := hl
  have hown : s.vm.findClass RX5 = some m.cls := hown
  have hi5 : ∀ w ∈ u_ws RX5 TX5 24, w ∈ wsX5_poke := fun w h => List.mem_cons_of_mem _ (List.mem_append_right _ h)
  refine lv_aload_n hx hb dX5_poke_0 rfl (lv_at hl 0 rfl) ?_
  refine lv_iconst (v := 0) hx hb dX5_poke_1 (by decide) ?_
  refine pu_R_f11 (v := (0 : Int32)) hx hb hts hi5 hown hK hP hD hS (hts (.fieldLink RX5 28 "InvaderBoardModel" "code" "I") (List.mem_cons_of_mem _ (List.mem_append_left _ (List.mem_of_getElem? (i := 0) rfl)))) dX5_poke_2 (fun H locs hP hD hS => ?_)
  refine lv_aload_n hx hb dX5_poke_5 rfl (lv_at hl 0 rfl) ?_
  refine lv_iload_n hx hb dX5_poke_6 rfl (lv_at hl 1 rfl) ?_
  refine lv_iload_n hx hb dX5_poke_7 rfl (lv_at hl 2 rfl) ?_
  refine KC.callv (ci := 5) (rest := []) (wt := wR cI o (upd f 11 (0 : Int32)) (ua a 1 (rWrite (upd f 11 (0 : Int32)) a p1 p2))) (kX5_write l D cI o (upd f 11 (0 : Int32)) a p1 p2) (cwV 2 hts gX5_poke_X5_write rfl rfl rfl (by decide +kernel) ⟨Nat.le_of_ble_eq_true rfl, Nat.le_of_ble_eq_true rfl⟩) ⟨hx, hb, hml, hown, hts⟩ hK hP hD hS hA rfl rfl rfl [0, 1, 2, 3, 4, 5, 6] [] [0, 1, 2, 3, 4, 5, 6] (by decide) rfl (wr := []) rfl (by decide) (by decide) (by decide) rfl rfl hl.1 rfl (Nat.le_of_ble_eq_true rfl) dX5_poke_8 ⟨Nat.zero_le _, Nat.zero_le _⟩ (fun H locs hP hD hS => ?_)
  refine lv_aload_n hx hb dX5_poke_11 rfl (lv_at hl 0 rfl) ?_
  refine lv_iload_n hx hb dX5_poke_12 rfl (lv_at hl 1 rfl) ?_
  refine KC.calli (ci := 5) (rest := []) (wt := wR cI o (upd f 11 (0 : Int32)) (ua a 1 (rWrite (upd f 11 (0 : Int32)) a p1 p2))) (kX5_read l D cI o (upd f 11 (0 : Int32)) (ua a 1 (rWrite (upd f 11 (0 : Int32)) a p1 p2)) p1) (cwV 1 hts gX5_poke_X5_read rfl rfl rfl (by decide +kernel) ⟨Nat.le_of_ble_eq_true rfl, Nat.le_of_ble_eq_true rfl⟩) ⟨hx, hb, hml, hown, hts⟩ hK hP hD hS hA rfl rfl rfl [0, 1, 2, 3, 4, 5, 6] [] [0, 1, 2, 3, 4, 5, 6] (by decide) rfl (wr := []) rfl (by decide) (by decide) (by decide) rfl rfl hl.1 rfl (Nat.le_of_ble_eq_true rfl) dX5_poke_13 ⟨Nat.zero_le _, Nat.zero_le _⟩ (fun H locs hP hD hS => ?_)
  have hF : rPoke f a p1 p2 = (rRead (upd f 11 (0 : Int32)) (ua a 1 (rWrite (upd f 11 (0 : Int32)) a p1 p2)) p1, upd f 11 (0 : Int32), ua a 1 (rWrite (upd f 11 (0 : Int32)) a p1 p2)) := rfl
  rw [hF]
  exact KC.reti hx hb hr hlocks hK hP hD hS dX5_poke_16 rfl
def rState (f : Nat → Int32) (a : Nat → Nat → Int32) (p1 : Int32) : Int32 × (Nat → Int32) :=
  if p1 < 0 then ((0 : Int32), upd f 11 (1 : Int32))
  else if p1 ≤ (6 : Int32) then if (2 : Int32) ≤ p1 then if p1 = (2 : Int32) then (f 8, upd f 11 (0 : Int32))
        else if p1 = (3 : Int32) then (f 9, upd f 11 (0 : Int32))
          else if p1 = (4 : Int32) then (f 10, upd f 11 (0 : Int32))
            else if p1 = (5 : Int32) then (f 7, upd f 11 (0 : Int32))
              else (rIn (upd f 11 (0 : Int32)) a (3 : Int32), upd f 11 (0 : Int32))
      else ((a 4) p1.toNatClampNeg, upd f 11 (0 : Int32))
    else ((0 : Int32), upd f 11 (1 : Int32))
set_option maxHeartbeats 4000000 in
set_option maxRecDepth 100000 in
theorem kX5_state (l : Launch) (D : va_G) (cI : ClassId) (o : Nat → Nat) (f : Nat → Int32) (a : Nat → Nat → Int32) (p1 : Int32) : KC l yX5_state wsX5_state 1 [.ref (o 20), .int p1] D cI (wR cI o f a) (wR cI o ((rState f a p1).2) a) (some (.int (rState f a p1).1)) := by
  refine KC.of (cc := cX5_state) (maxL := 2) (by decide) rfl (Nat.le_of_ble_eq_true rfl) ?_
  intro p e s m below meth c A hx hb hr hts hown hlocks hml hK hP hD hS hA ls hl
  have hl : lv_has ls 2 [(0, .ref (o 20)), (1, .int p1)] := hl
  have hown : s.vm.findClass RX5 = some m.cls := hown
  have hi5 : ∀ w ∈ u_ws RX5 TX5 24, w ∈ wsX5_state := fun w h => List.mem_cons_of_mem _ (List.mem_append_right _ h)
  refine lv_aload_n hx hb dX5_state_0 rfl (lv_at hl 0 rfl) ?_
  refine lv_iload_n hx hb dX5_state_1 rfl (lv_at hl 1 rfl) ?_
  refine lv_if_lt (tgt := 11) hx hb dX5_state_2 (by decide) (fun c_1 => ?_) (fun c_1 => ?_)
  · refine lv_iconst (v := 1) hx hb dX5_state_11 (by decide) ?_
    refine lv_goto (tgt := 16) hx hb dX5_state_12 (by decide) ?_
    refine pu_R_f11 (v := (1 : Int32)) hx hb hts hi5 hown hK hP hD hS (hts (.fieldLink RX5 28 "InvaderBoardModel" "code" "I") (List.mem_cons_of_mem _ (List.mem_append_left _ (List.mem_of_getElem? (i := 0) rfl)))) dX5_state_16 (fun H locs hP hD hS => ?_)
    refine lv_aload_n hx hb dX5_state_19 rfl (lv_at hl 0 rfl) ?_
    refine va_get (ci := 5) (v := .int (1 : Int32)) (C := RX5) (T := TX5) (N := 24) hx hb hts hi5 hown hK hP 0 rfl rfl 0 (by decide) (hts (.fieldLink RX5 28 "InvaderBoardModel" "code" "I") (List.mem_cons_of_mem _ (List.mem_append_left _ (List.mem_of_getElem? (i := 0) rfl)))) (fun _ h9 => h9) rfl dX5_state_20 ?_
    refine lv_if_le (tgt := 28) hx hb dX5_state_23 (by decide) (fun c_2 => ?_) (fun c_2 => ?_)
    · exact absurd c_2 (by decide)
    · refine lv_iconst (v := 0) hx hb dX5_state_26 (by decide) ?_
      have hF : rState f a p1 = ((0 : Int32), upd f 11 (1 : Int32)) := by
        unfold rState
        refine (if_pos c_1).trans ?_
        rfl
      rw [hF]
      exact KC.reti hx hb hr hlocks hK hP hD hS dX5_state_27 rfl
  · refine lv_iload_n hx hb dX5_state_5 rfl (lv_at hl 1 rfl) ?_
    refine lv_bipush (v := 6) hx hb dX5_state_6 (by decide) ?_
    refine lv_icmp_le (tgt := 15) hx hb dX5_state_8 (by decide) (fun c_3 => ?_) (fun c_3 => ?_)
    · refine lv_iconst (v := 0) hx hb dX5_state_15 (by decide) ?_
      refine pu_R_f11 (v := (0 : Int32)) hx hb hts hi5 hown hK hP hD hS (hts (.fieldLink RX5 28 "InvaderBoardModel" "code" "I") (List.mem_cons_of_mem _ (List.mem_append_left _ (List.mem_of_getElem? (i := 0) rfl)))) dX5_state_16 (fun H locs hP hD hS => ?_)
      refine lv_aload_n hx hb dX5_state_19 rfl (lv_at hl 0 rfl) ?_
      refine va_get (ci := 5) (v := .int (0 : Int32)) (C := RX5) (T := TX5) (N := 24) hx hb hts hi5 hown hK hP 0 rfl rfl 0 (by decide) (hts (.fieldLink RX5 28 "InvaderBoardModel" "code" "I") (List.mem_cons_of_mem _ (List.mem_append_left _ (List.mem_of_getElem? (i := 0) rfl)))) (fun _ h9 => h9) rfl dX5_state_20 ?_
      refine lv_if_le (tgt := 28) hx hb dX5_state_23 (by decide) (fun c_4 => ?_) (fun c_4 => ?_)
      · refine lv_iload_n hx hb dX5_state_28 rfl (lv_at hl 1 rfl) ?_
        refine lv_iconst (v := 2) hx hb dX5_state_29 (by decide) ?_
        refine lv_icmp_ge (tgt := 42) hx hb dX5_state_30 (by decide) (fun c_5 => ?_) (fun c_5 => ?_)
        · refine lv_iload_n hx hb dX5_state_42 rfl (lv_at hl 1 rfl) ?_
          refine lv_iconst (v := 2) hx hb dX5_state_43 (by decide) ?_
          refine lv_icmp_ne (tgt := 54) hx hb dX5_state_44 (by decide) (fun c_6 => ?_) (fun c_6 => ?_)
          · refine lv_iload_n hx hb dX5_state_54 rfl (lv_at hl 1 rfl) ?_
            refine lv_iconst (v := 3) hx hb dX5_state_55 (by decide) ?_
            refine lv_icmp_ne (tgt := 66) hx hb dX5_state_56 (by decide) (fun c_7 => ?_) (fun c_7 => ?_)
            · refine lv_iload_n hx hb dX5_state_66 rfl (lv_at hl 1 rfl) ?_
              refine lv_iconst (v := 4) hx hb dX5_state_67 (by decide) ?_
              refine lv_icmp_ne (tgt := 78) hx hb dX5_state_68 (by decide) (fun c_8 => ?_) (fun c_8 => ?_)
              · refine lv_iload_n hx hb dX5_state_78 rfl (lv_at hl 1 rfl) ?_
                refine lv_iconst (v := 5) hx hb dX5_state_79 (by decide) ?_
                refine lv_icmp_ne (tgt := 90) hx hb dX5_state_80 (by decide) (fun c_9 => ?_) (fun c_9 => ?_)
                · refine lv_aload_n hx hb dX5_state_90 rfl (lv_at hl 0 rfl) ?_
                  refine lv_iconst (v := 3) hx hb dX5_state_91 (by decide) ?_
                  refine KC.calli (ci := 5) (rest := []) (wt := wR cI o (upd f 11 (0 : Int32)) a) (kX5_in l D cI o (upd f 11 (0 : Int32)) a (3 : Int32) (by decide)) (cwV 1 hts gX5_state_X5_in rfl rfl rfl (by decide +kernel) ⟨Nat.le_of_ble_eq_true rfl, Nat.le_of_ble_eq_true rfl⟩) ⟨hx, hb, hml, hown, hts⟩ hK hP hD hS hA rfl rfl rfl [0, 1, 2, 3, 4, 5, 6] [] [0, 1, 2, 3, 4, 5, 6] (by decide) rfl (wr := []) rfl (by decide) (by decide) (by decide) rfl rfl hl.1 rfl (Nat.le_of_ble_eq_true rfl) dX5_state_92 ⟨Nat.zero_le _, Nat.zero_le _⟩ (fun H locs hP hD hS => ?_)
                  have hF : rState f a p1 = (rIn (upd f 11 (0 : Int32)) a (3 : Int32), upd f 11 (0 : Int32)) := by
                    unfold rState
                    refine (if_neg c_1).trans ?_
                    refine (if_pos c_3).trans ?_
                    refine (if_pos c_5).trans ?_
                    refine (if_neg c_6).trans ?_
                    refine (if_neg c_7).trans ?_
                    refine (if_neg c_8).trans ?_
                    refine (if_neg c_9).trans ?_
                    rfl
                  rw [hF]
                  exact KC.reti hx hb hr hlocks hK hP hD hS dX5_state_95 rfl
                · refine lv_aload_n hx hb dX5_state_83 rfl (lv_at hl 0 rfl) ?_
                  refine va_get (ci := 5) (v := .int (f 7)) (C := RX5) (T := TX5) (N := 24) hx hb hts hi5 hown hK hP 0 rfl rfl 21 (by decide) (hts (.fieldLink RX5 163 "InvaderBoardModel" "hunger" "I") (List.mem_cons_of_mem _ (List.mem_append_left _ (List.mem_of_getElem? (i := 5) rfl)))) (fun _ h9 => h9) rfl dX5_state_84 ?_
                  refine lv_goto (tgt := 95) hx hb dX5_state_87 (by decide) ?_
                  have hF : rState f a p1 = (f 7, upd f 11 (0 : Int32)) := by
                    unfold rState
                    refine (if_neg c_1).trans ?_
                    refine (if_pos c_3).trans ?_
                    refine (if_pos c_5).trans ?_
                    refine (if_neg c_6).trans ?_
                    refine (if_neg c_7).trans ?_
                    refine (if_neg c_8).trans ?_
                    refine (if_pos c_9).trans ?_
                    rfl
                  rw [hF]
                  exact KC.reti hx hb hr hlocks hK hP hD hS dX5_state_95 rfl
              · refine lv_aload_n hx hb dX5_state_71 rfl (lv_at hl 0 rfl) ?_
                refine va_get (ci := 5) (v := .int (f 10)) (C := RX5) (T := TX5) (N := 24) hx hb hts hi5 hown hK hP 0 rfl rfl 15 (by decide) (hts (.fieldLink RX5 166 "InvaderBoardModel" "request" "I") (List.mem_cons_of_mem _ (List.mem_append_left _ (List.mem_of_getElem? (i := 4) rfl)))) (fun _ h9 => h9) rfl dX5_state_72 ?_
                refine lv_goto (tgt := 95) hx hb dX5_state_75 (by decide) ?_
                have hF : rState f a p1 = (f 10, upd f 11 (0 : Int32)) := by
                  unfold rState
                  refine (if_neg c_1).trans ?_
                  refine (if_pos c_3).trans ?_
                  refine (if_pos c_5).trans ?_
                  refine (if_neg c_6).trans ?_
                  refine (if_neg c_7).trans ?_
                  refine (if_pos c_8).trans ?_
                  rfl
                rw [hF]
                exact KC.reti hx hb hr hlocks hK hP hD hS dX5_state_95 rfl
            · refine lv_aload_n hx hb dX5_state_59 rfl (lv_at hl 0 rfl) ?_
              refine va_get (ci := 5) (v := .int (f 9)) (C := RX5) (T := TX5) (N := 24) hx hb hts hi5 hown hK hP 0 rfl rfl 23 (by decide) (hts (.fieldLink RX5 179 "InvaderBoardModel" "frames" "I") (List.mem_cons_of_mem _ (List.mem_append_left _ (List.mem_of_getElem? (i := 3) rfl)))) (fun _ h9 => h9) rfl dX5_state_60 ?_
              refine lv_goto (tgt := 95) hx hb dX5_state_63 (by decide) ?_
              have hF : rState f a p1 = (f 9, upd f 11 (0 : Int32)) := by
                unfold rState
                refine (if_neg c_1).trans ?_
                refine (if_pos c_3).trans ?_
                refine (if_pos c_5).trans ?_
                refine (if_neg c_6).trans ?_
                refine (if_pos c_7).trans ?_
                rfl
              rw [hF]
              exact KC.reti hx hb hr hlocks hK hP hD hS dX5_state_95 rfl
          · refine lv_aload_n hx hb dX5_state_47 rfl (lv_at hl 0 rfl) ?_
            refine va_get (ci := 5) (v := .int (f 8)) (C := RX5) (T := TX5) (N := 24) hx hb hts hi5 hown hK hP 0 rfl rfl 22 (by decide) (hts (.fieldLink RX5 175 "InvaderBoardModel" "states" "I") (List.mem_cons_of_mem _ (List.mem_append_left _ (List.mem_of_getElem? (i := 2) rfl)))) (fun _ h9 => h9) rfl dX5_state_48 ?_
            refine lv_goto (tgt := 95) hx hb dX5_state_51 (by decide) ?_
            have hF : rState f a p1 = (f 8, upd f 11 (0 : Int32)) := by
              unfold rState
              refine (if_neg c_1).trans ?_
              refine (if_pos c_3).trans ?_
              refine (if_pos c_5).trans ?_
              refine (if_pos c_6).trans ?_
              rfl
            rw [hF]
            exact KC.reti hx hb hr hlocks hK hP hD hS dX5_state_95 rfl
        · refine lv_aload_n hx hb dX5_state_33 rfl (lv_at hl 0 rfl) ?_
          refine va_get (ci := 5) (v := .ref (o 25)) (C := RX5) (T := TX5) (N := 24) hx hb hts hi5 hown hK hP 0 rfl rfl 19 (by decide) (hts (.fieldLink RX5 22 "InvaderBoardModel" "latch" "[I") (List.mem_cons_of_mem _ (List.mem_append_left _ (List.mem_of_getElem? (i := 1) rfl)))) (fun _ h9 => h9) rfl dX5_state_34 ?_
          refine lv_iload_n hx hb dX5_state_37 rfl (lv_at hl 1 rfl) ?_
          refine va_iald (f := a 4) hx hb hK hP 5 0 rfl rfl (xin 2 (by decide) c_1 c_5) dX5_state_38 ?_
          refine lv_goto (tgt := 95) hx hb dX5_state_39 (by decide) ?_
          have hF : rState f a p1 = ((a 4) p1.toNatClampNeg, upd f 11 (0 : Int32)) := by
            unfold rState
            refine (if_neg c_1).trans ?_
            refine (if_pos c_3).trans ?_
            refine (if_neg c_5).trans ?_
            rfl
          rw [hF]
          exact KC.reti hx hb hr hlocks hK hP hD hS dX5_state_95 rfl
      · exact absurd c_4 (by decide)
    · refine lv_iconst (v := 1) hx hb dX5_state_11 (by decide) ?_
      refine lv_goto (tgt := 16) hx hb dX5_state_12 (by decide) ?_
      refine pu_R_f11 (v := (1 : Int32)) hx hb hts hi5 hown hK hP hD hS (hts (.fieldLink RX5 28 "InvaderBoardModel" "code" "I") (List.mem_cons_of_mem _ (List.mem_append_left _ (List.mem_of_getElem? (i := 0) rfl)))) dX5_state_16 (fun H locs hP hD hS => ?_)
      refine lv_aload_n hx hb dX5_state_19 rfl (lv_at hl 0 rfl) ?_
      refine va_get (ci := 5) (v := .int (1 : Int32)) (C := RX5) (T := TX5) (N := 24) hx hb hts hi5 hown hK hP 0 rfl rfl 0 (by decide) (hts (.fieldLink RX5 28 "InvaderBoardModel" "code" "I") (List.mem_cons_of_mem _ (List.mem_append_left _ (List.mem_of_getElem? (i := 0) rfl)))) (fun _ h9 => h9) rfl dX5_state_20 ?_
      refine lv_if_le (tgt := 28) hx hb dX5_state_23 (by decide) (fun c_10 => ?_) (fun c_10 => ?_)
      · exact absurd c_10 (by decide)
      · refine lv_iconst (v := 0) hx hb dX5_state_26 (by decide) ?_
        have hF : rState f a p1 = ((0 : Int32), upd f 11 (1 : Int32)) := by
          unfold rState
          refine (if_neg c_1).trans ?_
          refine (if_neg c_3).trans ?_
          rfl
        rw [hF]
        exact KC.reti hx hb hr hlocks hK hP hD hS dX5_state_27 rfl
def rSounds (f : Nat → Int32) (a : Nat → Nat → Int32) (p1 : Int32) : Int32 × (Nat → Int32) :=
  if p1 < 0 then ((0 : Int32), upd f 11 (1 : Int32))
  else if p1 ≤ (15 : Int32) then ((a 5) p1.toNatClampNeg, upd f 11 (0 : Int32))
    else ((0 : Int32), upd f 11 (1 : Int32))
set_option maxHeartbeats 4000000 in
set_option maxRecDepth 100000 in
theorem kX5_sounds (l : Launch) (D : va_G) (cI : ClassId) (o : Nat → Nat) (f : Nat → Int32) (a : Nat → Nat → Int32) (p1 : Int32) : KC l yX5_sounds wsX5_sounds 0 [.ref (o 20), .int p1] D cI (wR cI o f a) (wR cI o ((rSounds f a p1).2) a) (some (.int (rSounds f a p1).1)) := by
  refine KC.of (cc := cX5_sounds) (maxL := 2) (by decide) rfl (Nat.le_of_ble_eq_true rfl) ?_
  intro p e s m below meth c A hx hb hr hts hown hlocks hml hK hP hD hS hA ls hl
  have hl : lv_has ls 2 [(0, .ref (o 20)), (1, .int p1)] := hl
  have hown : s.vm.findClass RX5 = some m.cls := hown
  have hi5 : ∀ w ∈ u_ws RX5 TX5 24, w ∈ wsX5_sounds := fun w h => List.mem_cons_of_mem _ (List.mem_append_right _ h)
  refine lv_aload_n hx hb dX5_sounds_0 rfl (lv_at hl 0 rfl) ?_
  refine lv_iload_n hx hb dX5_sounds_1 rfl (lv_at hl 1 rfl) ?_
  refine lv_if_lt (tgt := 11) hx hb dX5_sounds_2 (by decide) (fun c_1 => ?_) (fun c_1 => ?_)
  · refine lv_iconst (v := 1) hx hb dX5_sounds_11 (by decide) ?_
    refine lv_goto (tgt := 16) hx hb dX5_sounds_12 (by decide) ?_
    refine pu_R_f11 (v := (1 : Int32)) hx hb hts hi5 hown hK hP hD hS (hts (.fieldLink RX5 28 "InvaderBoardModel" "code" "I") (List.mem_cons_of_mem _ (List.mem_append_left _ (List.mem_of_getElem? (i := 0) rfl)))) dX5_sounds_16 (fun H locs hP hD hS => ?_)
    refine lv_aload_n hx hb dX5_sounds_19 rfl (lv_at hl 0 rfl) ?_
    refine va_get (ci := 5) (v := .int (1 : Int32)) (C := RX5) (T := TX5) (N := 24) hx hb hts hi5 hown hK hP 0 rfl rfl 0 (by decide) (hts (.fieldLink RX5 28 "InvaderBoardModel" "code" "I") (List.mem_cons_of_mem _ (List.mem_append_left _ (List.mem_of_getElem? (i := 0) rfl)))) (fun _ h9 => h9) rfl dX5_sounds_20 ?_
    refine lv_if_le (tgt := 30) hx hb dX5_sounds_23 (by decide) (fun c_2 => ?_) (fun c_2 => ?_)
    · exact absurd c_2 (by decide)
    · refine lv_iconst (v := 0) hx hb dX5_sounds_26 (by decide) ?_
      refine lv_goto (tgt := 36) hx hb dX5_sounds_27 (by decide) ?_
      have hF : rSounds f a p1 = ((0 : Int32), upd f 11 (1 : Int32)) := by
        unfold rSounds
        refine (if_pos c_1).trans ?_
        rfl
      rw [hF]
      exact KC.reti hx hb hr hlocks hK hP hD hS dX5_sounds_36 rfl
  · refine lv_iload_n hx hb dX5_sounds_5 rfl (lv_at hl 1 rfl) ?_
    refine lv_bipush (v := 15) hx hb dX5_sounds_6 (by decide) ?_
    refine lv_icmp_le (tgt := 15) hx hb dX5_sounds_8 (by decide) (fun c_3 => ?_) (fun c_3 => ?_)
    · refine lv_iconst (v := 0) hx hb dX5_sounds_15 (by decide) ?_
      refine pu_R_f11 (v := (0 : Int32)) hx hb hts hi5 hown hK hP hD hS (hts (.fieldLink RX5 28 "InvaderBoardModel" "code" "I") (List.mem_cons_of_mem _ (List.mem_append_left _ (List.mem_of_getElem? (i := 0) rfl)))) dX5_sounds_16 (fun H locs hP hD hS => ?_)
      refine lv_aload_n hx hb dX5_sounds_19 rfl (lv_at hl 0 rfl) ?_
      refine va_get (ci := 5) (v := .int (0 : Int32)) (C := RX5) (T := TX5) (N := 24) hx hb hts hi5 hown hK hP 0 rfl rfl 0 (by decide) (hts (.fieldLink RX5 28 "InvaderBoardModel" "code" "I") (List.mem_cons_of_mem _ (List.mem_append_left _ (List.mem_of_getElem? (i := 0) rfl)))) (fun _ h9 => h9) rfl dX5_sounds_20 ?_
      refine lv_if_le (tgt := 30) hx hb dX5_sounds_23 (by decide) (fun c_4 => ?_) (fun c_4 => ?_)
      · refine lv_aload_n hx hb dX5_sounds_30 rfl (lv_at hl 0 rfl) ?_
        refine va_get (ci := 5) (v := .ref (o 26)) (C := RX5) (T := TX5) (N := 24) hx hb hts hi5 hown hK hP 0 rfl rfl 20 (by decide) (hts (.fieldLink RX5 25 "InvaderBoardModel" "edges" "[I") (List.mem_cons_of_mem _ (List.mem_append_left _ (List.mem_of_getElem? (i := 1) rfl)))) (fun _ h9 => h9) rfl dX5_sounds_31 ?_
        refine lv_iload_n hx hb dX5_sounds_34 rfl (lv_at hl 1 rfl) ?_
        refine va_iald (f := a 5) hx hb hK hP 6 0 rfl rfl (xin_le 15 (by decide) c_1 c_3) dX5_sounds_35 ?_
        have hF : rSounds f a p1 = ((a 5) p1.toNatClampNeg, upd f 11 (0 : Int32)) := by
          unfold rSounds
          refine (if_neg c_1).trans ?_
          refine (if_pos c_3).trans ?_
          rfl
        rw [hF]
        exact KC.reti hx hb hr hlocks hK hP hD hS dX5_sounds_36 rfl
      · exact absurd c_4 (by decide)
    · refine lv_iconst (v := 1) hx hb dX5_sounds_11 (by decide) ?_
      refine lv_goto (tgt := 16) hx hb dX5_sounds_12 (by decide) ?_
      refine pu_R_f11 (v := (1 : Int32)) hx hb hts hi5 hown hK hP hD hS (hts (.fieldLink RX5 28 "InvaderBoardModel" "code" "I") (List.mem_cons_of_mem _ (List.mem_append_left _ (List.mem_of_getElem? (i := 0) rfl)))) dX5_sounds_16 (fun H locs hP hD hS => ?_)
      refine lv_aload_n hx hb dX5_sounds_19 rfl (lv_at hl 0 rfl) ?_
      refine va_get (ci := 5) (v := .int (1 : Int32)) (C := RX5) (T := TX5) (N := 24) hx hb hts hi5 hown hK hP 0 rfl rfl 0 (by decide) (hts (.fieldLink RX5 28 "InvaderBoardModel" "code" "I") (List.mem_cons_of_mem _ (List.mem_append_left _ (List.mem_of_getElem? (i := 0) rfl)))) (fun _ h9 => h9) rfl dX5_sounds_20 ?_
      refine lv_if_le (tgt := 30) hx hb dX5_sounds_23 (by decide) (fun c_5 => ?_) (fun c_5 => ?_)
      · exact absurd c_5 (by decide)
      · refine lv_iconst (v := 0) hx hb dX5_sounds_26 (by decide) ?_
        refine lv_goto (tgt := 36) hx hb dX5_sounds_27 (by decide) ?_
        have hF : rSounds f a p1 = ((0 : Int32), upd f 11 (1 : Int32)) := by
          unfold rSounds
          refine (if_neg c_1).trans ?_
          refine (if_neg c_3).trans ?_
          rfl
        rw [hF]
        exact KC.reti hx hb hr hlocks hK hP hD hS dX5_sounds_36 rfl
