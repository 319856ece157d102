def rNext (f : Nat → Int32) (a : Nat → Nat → Int32)  : Int32 × (Nat → Int32) :=
  (rRead f a (f 1), upd f 1 (((f 1) + (1 : Int32)) &&& (65535 : Int32)))
set_option maxHeartbeats 4000000 in
set_option maxRecDepth 100000 in
theorem kX5_next (l : Launch) (D : va_G) (cI : ClassId) (o : Nat → Nat) (f : Nat → Int32) (a : Nat → Nat → Int32)  : KC l yX5_next wsX5_next 1 [.ref (o 20)] D cI (wR cI o f a) (wR cI o ((rNext f a).2) a) (some (.int (rNext f a).1)) := by
  refine KC.of (cc := cX5_next) (maxL := 2) (by decide) rfl (Nat.le_of_ble_eq_true rfl) ?_
  intro p e s m below meth c A hx hb hr hts hown hlocks hml hK hP hD hS hA ls hl
  have hl : lv_has ls 2 [(0, .ref (o 20))] := hl
  have hown : s.vm.findClass RX5 = some m.cls := hown
  have hi5 : ∀ w ∈ u_ws RX5 TX5 24, w ∈ wsX5_next := fun w h => List.mem_cons_of_mem _ (List.mem_append_right _ h)
  refine lv_aload_n hx hb dX5_next_0 rfl (lv_at hl 0 rfl) ?_
  refine lv_aload_n hx hb dX5_next_1 rfl (lv_at hl 0 rfl) ?_
  refine va_get (ci := 5) (v := .int (f 1)) (C := RX5) (T := TX5) (N := 24) hx hb hts hi5 hown hK hP 0 rfl rfl 5 (by decide) (hts (.fieldLink RX5 33 "InvaderBoardModel" "pc" "I") (List.mem_cons_of_mem _ (List.mem_append_left _ (List.mem_of_getElem? (i := 0) rfl)))) (fun _ h9 => h9) rfl dX5_next_2 ?_
  refine KC.calli (ci := 5) (rest := []) (wt := wR cI o f a) (kX5_read l D cI o f a (f 1)) (cwV 1 hts gX5_next_X5_read rfl rfl rfl (by decide +kernel) ⟨Nat.le_of_ble_eq_true rfl, Nat.le_of_ble_eq_true rfl⟩) ⟨hx, hb, hml, hown, hts⟩ hK hP hD hS hA rfl rfl rfl [0, 1, 2, 3, 4, 5, 6] [] [0, 1, 2, 3, 4, 5, 6] (by decide) rfl (wr := []) rfl (by decide) (by decide) (by decide) rfl rfl hl.1 rfl (Nat.le_of_ble_eq_true rfl) dX5_next_5 ⟨Nat.zero_le _, Nat.zero_le _⟩ (fun H locs hP hD hS => ?_)
  refine lv_istore_n (lv' := [(1, .int _), (0, .ref _)]) hx hb dX5_next_8 rfl hl (by decide) rfl (fun ls hl => ?_)
  refine lv_aload_n hx hb dX5_next_9 rfl (lv_at hl 1 rfl) ?_
  refine lv_aload_n hx hb dX5_next_10 rfl (lv_at hl 1 rfl) ?_
  refine va_get (ci := 5) (v := .int (f 1)) (C := RX5) (T := TX5) (N := 24) hx hb hts hi5 hown hK hP 0 rfl rfl 5 (by decide) (hts (.fieldLink RX5 33 "InvaderBoardModel" "pc" "I") (List.mem_cons_of_mem _ (List.mem_append_left _ (List.mem_of_getElem? (i := 0) rfl)))) (fun _ h9 => h9) rfl dX5_next_11 ?_
  refine lv_iconst (v := 1) hx hb dX5_next_14 (by decide) ?_
  refine lv_iadd hx hb dX5_next_15 ?_
  refine lv_ldc (v := 65535) hx hb hown (hts (.constant RX5 32 65535) (List.mem_cons_of_mem _ (List.mem_append_left _ (List.mem_of_getElem? (i := 1) rfl)))) dX5_next_16 ?_
  refine lv_iand hx hb dX5_next_18 ?_
  refine pu_R_f1 (v := ((f 1) + (1 : Int32)) &&& (65535 : Int32)) hx hb hts hi5 hown hK hP hD hS (hts (.fieldLink RX5 33 "InvaderBoardModel" "pc" "I") (List.mem_cons_of_mem _ (List.mem_append_left _ (List.mem_of_getElem? (i := 0) rfl)))) dX5_next_19 (fun H locs hP hD hS => ?_)
  refine lv_iload_n hx hb dX5_next_22 rfl (lv_at hl 0 rfl) ?_
  have hF : rNext f a = (rRead f a (f 1), upd f 1 (((f 1) + (1 : Int32)) &&& (65535 : Int32))) := rfl
  rw [hF]
  exact KC.reti hx hb hr hlocks hK hP hD hS dX5_next_23 rfl
def rNextTwo (f : Nat → Int32) (a : Nat → Nat → Int32)  : Int32 × (Nat → Int32) :=
  (match rNext f a with
  | (r_1, f_1) => (match rNext f_1 a with
    | (r_2, f_2) => (r_1 ||| (r_2 <<< ((8 : Int32) &&& 31)), f_2)))
set_option maxHeartbeats 4000000 in
set_option maxRecDepth 100000 in
theorem kX5_nextTwo (l : Launch) (D : va_G) (cI : ClassId) (o : Nat → Nat) (f : Nat → Int32) (a : Nat → Nat → Int32)  : KC l yX5_nextTwo wsX5_nextTwo 2 [.ref (o 20)] D cI (wR cI o f a) (wR cI o ((rNextTwo f a).2) a) (some (.int (rNextTwo f a).1)) := by
  refine KC.of (cc := cX5_nextTwo) (maxL := 2) (by decide) rfl (Nat.le_of_ble_eq_true rfl) ?_
  intro p e s m below meth c A hx hb hr hts hown hlocks hml hK hP hD hS hA ls hl
  have hl : lv_has ls 2 [(0, .ref (o 20))] := hl
  have hown : s.vm.findClass RX5 = some m.cls := hown
  refine lv_aload_n hx hb dX5_nextTwo_0 rfl (lv_at hl 0 rfl) ?_
  obtain ⟨r_1, f_1, hB_1⟩ := k_ex2 (rNext f a)
  have kc_1 := kX5_next l D cI o f a
  rw [hB_1] at kc_1; dsimp only at kc_1
  refine KC.calli (ci := 5) (rest := []) (wt := wR cI o f_1 a) (kc_1) (cwV 0 hts gX5_nextTwo_X5_next rfl rfl rfl (by decide +kernel) ⟨Nat.le_of_ble_eq_true rfl, Nat.le_of_ble_eq_true rfl⟩) ⟨hx, hb, hml, hown, hts⟩ hK hP hD hS hA rfl rfl rfl [0, 1, 2, 3, 4, 5, 6] [] [0, 1, 2, 3, 4, 5, 6] (by decide) rfl (wr := []) rfl (by decide) (by decide) (by decide) rfl rfl hl.1 rfl (Nat.le_of_ble_eq_true rfl) dX5_nextTwo_1 ⟨Nat.zero_le _, Nat.zero_le _⟩ (fun H locs hP hD hS => ?_)
  refine lv_istore_n (lv' := [(1, .int _), (0, .ref _)]) hx hb dX5_nextTwo_4 rfl hl (by decide) rfl (fun ls hl => ?_)
  refine lv_iload_n hx hb dX5_nextTwo_5 rfl (lv_at hl 0 rfl) ?_
  refine lv_aload_n hx hb dX5_nextTwo_6 rfl (lv_at hl 1 rfl) ?_
  obtain ⟨r_2, f_2, hB_2⟩ := k_ex2 (rNext f_1 a)
  have kc_2 := kX5_next l D cI o f_1 a
  rw [hB_2] at kc_2; dsimp only at kc_2
  refine KC.calli (ci := 5) (rest := [.int r_1]) (wt := wR cI o f_2 a) (kc_2) (cwV 0 hts gX5_nextTwo_X5_next rfl rfl rfl (by decide +kernel) ⟨Nat.le_of_ble_eq_true rfl, Nat.le_of_ble_eq_true rfl⟩) ⟨hx, hb, hml, hown, hts⟩ hK hP hD hS hA rfl rfl rfl [0, 1, 2, 3, 4, 5, 6] [] [0, 1, 2, 3, 4, 5, 6] (by decide) rfl (wr := []) rfl (by decide) (by decide) (by decide) rfl rfl hl.1 rfl (Nat.le_of_ble_eq_true rfl) dX5_nextTwo_7 ⟨Nat.zero_le _, Nat.zero_le _⟩ (fun H locs hP hD hS => ?_)
  refine lv_bipush (v := 8) hx hb dX5_nextTwo_10 (by decide) ?_
  refine lv_ishl hx hb dX5_nextTwo_12 ?_
  refine lv_ior hx hb dX5_nextTwo_13 ?_
  have hF : rNextTwo f a = (r_1 ||| (r_2 <<< ((8 : Int32) &&& 31)), f_2) := by
    unfold rNextTwo
    rewrite [hB_1]
    dsimp only
    rewrite [hB_2]
    rfl
  rw [hF]
  exact KC.reti hx hb hr hlocks hK hP hD hS dX5_nextTwo_14 rfl
def rPush (f : Nat → Int32) (a : Nat → Nat → Int32) (p1 : Int32) : (Nat → Int32) × (Nat → Nat → Int32) :=
  (upd f 0 (((f 0) - (2 : Int32)) &&& (65535 : Int32)), ua (ua a 1 (rWrite (upd f 0 (((f 0) - (2 : Int32)) &&& (65535 : Int32))) a (((f 0) - (2 : Int32)) &&& (65535 : Int32)) p1)) 1 (rWrite (upd f 0 (((f 0) - (2 : Int32)) &&& (65535 : Int32))) (ua a 1 (rWrite (upd f 0 (((f 0) - (2 : Int32)) &&& (65535 : Int32))) a (((f 0) - (2 : Int32)) &&& (65535 : Int32)) p1)) (((((f 0) - (2 : Int32)) &&& (65535 : Int32)) + (1 : Int32)) &&& (65535 : Int32)) (p1 >>> ((8 : Int32) &&& 31))))
set_option maxHeartbeats 4000000 in
set_option maxRecDepth 100000 in
theorem kX5_push (l : Launch) (D : va_G) (cI : ClassId) (o : Nat → Nat) (f : Nat → Int32) (a : Nat → Nat → Int32) (p1 : Int32) : KC l yX5_push wsX5_push 1 [.ref (o 20), .int p1] D cI (wR cI o f a) (wR cI o ((rPush f a p1).1) ((rPush f a p1).2)) none := by
  refine KC.of (cc := cX5_push) (maxL := 2) (by decide) rfl (Nat.le_of_ble_eq_true rfl) ?_
  intro p e s m below meth c A hx hb hr hts hown hlocks hml hK hP hD hS hA ls hl
  have hl : lv_has ls 2 [(0, .ref (o 20)), (1, .int p1)] := hl
  have hown : s.vm.findClass RX5 = some m.cls := hown
  have hi5 : ∀ w ∈ u_ws RX5 TX5 24, w ∈ wsX5_push := fun w h => List.mem_cons_of_mem _ (List.mem_append_right _ h)
  refine lv_aload_n hx hb dX5_push_0 rfl (lv_at hl 0 rfl) ?_
  refine lv_aload_n hx hb dX5_push_1 rfl (lv_at hl 0 rfl) ?_
  refine va_get (ci := 5) (v := .int (f 0)) (C := RX5) (T := TX5) (N := 24) hx hb hts hi5 hown hK hP 0 rfl rfl 4 (by decide) (hts (.fieldLink RX5 44 "InvaderBoardModel" "sp" "I") (List.mem_cons_of_mem _ (List.mem_append_left _ (List.mem_of_getElem? (i := 0) rfl)))) (fun _ h9 => h9) rfl dX5_push_2 ?_
  refine lv_iconst (v := 2) hx hb dX5_push_5 (by decide) ?_
  refine lv_isub hx hb dX5_push_6 ?_
  refine lv_ldc (v := 65535) hx hb hown (hts (.constant RX5 32 65535) (List.mem_cons_of_mem _ (List.mem_append_left _ (List.mem_of_getElem? (i := 1) rfl)))) dX5_push_7 ?_
  refine lv_iand hx hb dX5_push_9 ?_
  refine pu_R_f0 (v := ((f 0) - (2 : Int32)) &&& (65535 : Int32)) hx hb hts hi5 hown hK hP hD hS (hts (.fieldLink RX5 44 "InvaderBoardModel" "sp" "I") (List.mem_cons_of_mem _ (List.mem_append_left _ (List.mem_of_getElem? (i := 0) rfl)))) dX5_push_10 (fun H locs hP hD hS => ?_)
  refine lv_aload_n hx hb dX5_push_13 rfl (lv_at hl 0 rfl) ?_
  refine lv_aload_n hx hb dX5_push_14 rfl (lv_at hl 0 rfl) ?_
  refine va_get (ci := 5) (v := .int (((f 0) - (2 : Int32)) &&& (65535 : Int32))) (C := RX5) (T := TX5) (N := 24) hx hb hts hi5 hown hK hP 0 rfl rfl 4 (by decide) (hts (.fieldLink RX5 44 "InvaderBoardModel" "sp" "I") (List.mem_cons_of_mem _ (List.mem_append_left _ (List.mem_of_getElem? (i := 0) rfl)))) (fun _ h9 => h9) rfl dX5_push_15 ?_
  refine lv_iload_n hx hb dX5_push_18 rfl (lv_at hl 1 rfl) ?_
  refine KC.callv (ci := 5) (rest := []) (wt := wR cI o (upd f 0 (((f 0) - (2 : Int32)) &&& (65535 : Int32))) (ua a 1 (rWrite (upd f 0 (((f 0) - (2 : Int32)) &&& (65535 : Int32))) a (((f 0) - (2 : Int32)) &&& (65535 : Int32)) p1))) (kX5_write l D cI o (upd f 0 (((f 0) - (2 : Int32)) &&& (65535 : Int32))) a (((f 0) - (2 : Int32)) &&& (65535 : Int32)) p1) (cwV 2 hts gX5_push_X5_write rfl rfl rfl (by decide +kernel) ⟨Nat.le_of_ble_eq_true rfl, Nat.le_of_ble_eq_true rfl⟩) ⟨hx, hb, hml, hown, hts⟩ hK hP hD hS hA rfl rfl rfl [0, 1, 2, 3, 4, 5, 6] [] [0, 1, 2, 3, 4, 5, 6] (by decide) rfl (wr := []) rfl (by decide) (by decide) (by decide) rfl rfl hl.1 rfl (Nat.le_of_ble_eq_true rfl) dX5_push_19 ⟨Nat.zero_le _, Nat.zero_le _⟩ (fun H locs hP hD hS => ?_)
  refine lv_aload_n hx hb dX5_push_22 rfl (lv_at hl 0 rfl) ?_
  refine lv_aload_n hx hb dX5_push_23 rfl (lv_at hl 0 rfl) ?_
  refine va_get (ci := 5) (v := .int (((f 0) - (2 : Int32)) &&& (65535 : Int32))) (C := RX5) (T := TX5) (N := 24) hx hb hts hi5 hown hK hP 0 rfl rfl 4 (by decide) (hts (.fieldLink RX5 44 "InvaderBoardModel" "sp" "I") (List.mem_cons_of_mem _ (List.mem_append_left _ (List.mem_of_getElem? (i := 0) rfl)))) (fun _ h9 => h9) rfl dX5_push_24 ?_
  refine lv_iconst (v := 1) hx hb dX5_push_27 (by decide) ?_
  refine lv_iadd hx hb dX5_push_28 ?_
  refine lv_ldc (v := 65535) hx hb hown (hts (.constant RX5 32 65535) (List.mem_cons_of_mem _ (List.mem_append_left _ (List.mem_of_getElem? (i := 1) rfl)))) dX5_push_29 ?_
  refine lv_iand hx hb dX5_push_31 ?_
  refine lv_iload_n hx hb dX5_push_32 rfl (lv_at hl 1 rfl) ?_
  refine lv_bipush (v := 8) hx hb dX5_push_33 (by decide) ?_
  refine lv_ishr hx hb dX5_push_35 ?_
  refine KC.callv (ci := 5) (rest := []) (wt := wR cI o (upd f 0 (((f 0) - (2 : Int32)) &&& (65535 : Int32))) (ua (ua a 1 (rWrite (upd f 0 (((f 0) - (2 : Int32)) &&& (65535 : Int32))) a (((f 0) - (2 : Int32)) &&& (65535 : Int32)) p1)) 1 (rWrite (upd f 0 (((f 0) - (2 : Int32)) &&& (65535 : Int32))) (ua a 1 (rWrite (upd f 0 (((f 0) - (2 : Int32)) &&& (65535 : Int32))) a (((f 0) - (2 : Int32)) &&& (65535 : Int32)) p1)) (((((f 0) - (2 : Int32)) &&& (65535 : Int32)) + (1 : Int32)) &&& (65535 : Int32)) (p1 >>> ((8 : Int32) &&& 31))))) (kX5_write l D cI o (upd f 0 (((f 0) - (2 : Int32)) &&& (65535 : Int32))) (ua a 1 (rWrite (upd f 0 (((f 0) - (2 : Int32)) &&& (65535 : Int32))) a (((f 0) - (2 : Int32)) &&& (65535 : Int32)) p1)) (((((f 0) - (2 : Int32)) &&& (65535 : Int32)) + (1 : Int32)) &&& (65535 : Int32)) (p1 >>> ((8 : Int32) &&& 31))) (cwV 2 hts gX5_push_X5_write rfl rfl rfl (by decide +kernel) ⟨Nat.le_of_ble_eq_true rfl, Nat.le_of_ble_eq_true rfl⟩) ⟨hx, hb, hml, hown, hts⟩ hK hP hD hS hA rfl rfl rfl [0, 1, 2, 3, 4, 5, 6] [] [0, 1, 2, 3, 4, 5, 6] (by decide) rfl (wr := []) rfl (by decide) (by decide) (by decide) rfl rfl hl.1 rfl (Nat.le_of_ble_eq_true rfl) dX5_push_36 ⟨Nat.zero_le _, Nat.zero_le _⟩ (fun H locs hP hD hS => ?_)
  have hF : rPush f a p1 = (upd f 0 (((f 0) - (2 : Int32)) &&& (65535 : Int32)), ua (ua a 1 (rWrite (upd f 0 (((f 0) - (2 : Int32)) &&& (65535 : Int32))) a (((f 0) - (2 : Int32)) &&& (65535 : Int32)) p1)) 1 (rWrite (upd f 0 (((f 0) - (2 : Int32)) &&& (65535 : Int32))) (ua a 1 (rWrite (upd f 0 (((f 0) - (2 : Int32)) &&& (65535 : Int32))) a (((f 0) - (2 : Int32)) &&& (65535 : Int32)) p1)) (((((f 0) - (2 : Int32)) &&& (65535 : Int32)) + (1 : Int32)) &&& (65535 : Int32)) (p1 >>> ((8 : Int32) &&& 31)))) := rfl
  rw [hF]
  exact KC.retv hx hb hr hlocks hK hP hD hS dX5_push_39
def rPop (f : Nat → Int32) (a : Nat → Nat → Int32)  : Int32 × (Nat → Int32) :=
  ((rRead f a (f 0)) ||| ((rRead f a (((f 0) + (1 : Int32)) &&& (65535 : Int32))) <<< ((8 : Int32) &&& 31)), upd f 0 (((f 0) + (2 : Int32)) &&& (65535 : Int32)))
set_option maxHeartbeats 4000000 in
set_option maxRecDepth 100000 in
theorem kX5_pop (l : Launch) (D : va_G) (cI : ClassId) (o : Nat → Nat) (f : Nat → Int32) (a : Nat → Nat → Int32)  : KC l yX5_pop wsX5_pop 1 [.ref (o 20)] D cI (wR cI o f a) (wR cI o ((rPop f a).2) a) (some (.int (rPop f a).1)) := by
  refine KC.of (cc := cX5_pop) (maxL := 2) (by decide) rfl (Nat.le_of_ble_eq_true rfl) ?_
  intro p e s m below meth c A hx hb hr hts hown hlocks hml hK hP hD hS hA ls hl
  have hl : lv_has ls 2 [(0, .ref (o 20))] := hl
  have hown : s.vm.findClass RX5 = some m.cls := hown
  have hi5 : ∀ w ∈ u_ws RX5 TX5 24, w ∈ wsX5_pop := fun w h => List.mem_cons_of_mem _ (List.mem_append_right _ h)
  refine lv_aload_n hx hb dX5_pop_0 rfl (lv_at hl 0 rfl) ?_
  refine lv_aload_n hx hb dX5_pop_1 rfl (lv_at hl 0 rfl) ?_
  refine va_get (ci := 5) (v := .int (f 0)) (C := RX5) (T := TX5) (N := 24) hx hb hts hi5 hown hK hP 0 rfl rfl 4 (by decide) (hts (.fieldLink RX5 44 "InvaderBoardModel" "sp" "I") (List.mem_cons_of_mem _ (List.mem_append_left _ (List.mem_of_getElem? (i := 0) rfl)))) (fun _ h9 => h9) rfl dX5_pop_2 ?_
  refine KC.calli (ci := 5) (rest := []) (wt := wR cI o f a) (kX5_read l D cI o f a (f 0)) (cwV 1 hts gX5_pop_X5_read rfl rfl rfl (by decide +kernel) ⟨Nat.le_of_ble_eq_true rfl, Nat.le_of_ble_eq_true rfl⟩) ⟨hx, hb, hml, hown, hts⟩ hK hP hD hS hA rfl rfl rfl [0, 1, 2, 3, 4, 5, 6] [] [0, 1, 2, 3, 4, 5, 6] (by decide) rfl (wr := []) rfl (by decide) (by decide) (by decide) rfl rfl hl.1 rfl (Nat.le_of_ble_eq_true rfl) dX5_pop_5 ⟨Nat.zero_le _, Nat.zero_le _⟩ (fun H locs hP hD hS => ?_)
  refine lv_aload_n hx hb dX5_pop_8 rfl (lv_at hl 0 rfl) ?_
  refine lv_aload_n hx hb dX5_pop_9 rfl (lv_at hl 0 rfl) ?_
  refine va_get (ci := 5) (v := .int (f 0)) (C := RX5) (T := TX5) (N := 24) hx hb hts hi5 hown hK hP 0 rfl rfl 4 (by decide) (hts (.fieldLink RX5 44 "InvaderBoardModel" "sp" "I") (List.mem_cons_of_mem _ (List.mem_append_left _ (List.mem_of_getElem? (i := 0) rfl)))) (fun _ h9 => h9) rfl dX5_pop_10 ?_
  refine lv_iconst (v := 1) hx hb dX5_pop_13 (by decide) ?_
  refine lv_iadd hx hb dX5_pop_14 ?_
  refine lv_ldc (v := 65535) hx hb hown (hts (.constant RX5 32 65535) (List.mem_cons_of_mem _ (List.mem_append_left _ (List.mem_of_getElem? (i := 1) rfl)))) dX5_pop_15 ?_
  refine lv_iand hx hb dX5_pop_17 ?_
  refine KC.calli (ci := 5) (rest := [.int (rRead f a (f 0))]) (wt := wR cI o f a) (kX5_read l D cI o f a (((f 0) + (1 : Int32)) &&& (65535 : Int32))) (cwV 1 hts gX5_pop_X5_read rfl rfl rfl (by decide +kernel) ⟨Nat.le_of_ble_eq_true rfl, Nat.le_of_ble_eq_true rfl⟩) ⟨hx, hb, hml, hown, hts⟩ hK hP hD hS hA rfl rfl rfl [0, 1, 2, 3, 4, 5, 6] [] [0, 1, 2, 3, 4, 5, 6] (by decide) rfl (wr := []) rfl (by decide) (by decide) (by decide) rfl rfl hl.1 rfl (Nat.le_of_ble_eq_true rfl) dX5_pop_18 ⟨Nat.zero_le _, Nat.zero_le _⟩ (fun H locs hP hD hS => ?_)
  refine lv_bipush (v := 8) hx hb dX5_pop_21 (by decide) ?_
  refine lv_ishl hx hb dX5_pop_23 ?_
  refine lv_ior hx hb dX5_pop_24 ?_
  refine lv_istore_n (lv' := [(1, .int _), (0, .ref _)]) hx hb dX5_pop_25 rfl hl (by decide) rfl (fun ls hl => ?_)
  refine lv_aload_n hx hb dX5_pop_26 rfl (lv_at hl 1 rfl) ?_
  refine lv_aload_n hx hb dX5_pop_27 rfl (lv_at hl 1 rfl) ?_
  refine va_get (ci := 5) (v := .int (f 0)) (C := RX5) (T := TX5) (N := 24) hx hb hts hi5 hown hK hP 0 rfl rfl 4 (by decide) (hts (.fieldLink RX5 44 "InvaderBoardModel" "sp" "I") (List.mem_cons_of_mem _ (List.mem_append_left _ (List.mem_of_getElem? (i := 0) rfl)))) (fun _ h9 => h9) rfl dX5_pop_28 ?_
  refine lv_iconst (v := 2) hx hb dX5_pop_31 (by decide) ?_
  refine lv_iadd hx hb dX5_pop_32 ?_
  refine lv_ldc (v := 65535) hx hb hown (hts (.constant RX5 32 65535) (List.mem_cons_of_mem _ (List.mem_append_left _ (List.mem_of_getElem? (i := 1) rfl)))) dX5_pop_33 ?_
  refine lv_iand hx hb dX5_pop_35 ?_
  refine pu_R_f0 (v := ((f 0) + (2 : Int32)) &&& (65535 : Int32)) hx hb hts hi5 hown hK hP hD hS (hts (.fieldLink RX5 44 "InvaderBoardModel" "sp" "I") (List.mem_cons_of_mem _ (List.mem_append_left _ (List.mem_of_getElem? (i := 0) rfl)))) dX5_pop_36 (fun H locs hP hD hS => ?_)
  refine lv_iload_n hx hb dX5_pop_39 rfl (lv_at hl 0 rfl) ?_
  have hF : rPop f a = ((rRead f a (f 0)) ||| ((rRead f a (((f 0) + (1 : Int32)) &&& (65535 : Int32))) <<< ((8 : Int32) &&& 31)), upd f 0 (((f 0) + (2 : Int32)) &&& (65535 : Int32))) := rfl
  rw [hF]
  exact KC.reti hx hb hr hlocks hK hP hD hS dX5_pop_40 rfl
def rHl (f : Nat → Int32) (a : Nat → Nat → Int32)  : Int32 :=
  (((a 2) (4 : Int32).toNatClampNeg) <<< ((8 : Int32) &&& 31)) ||| ((a 2) (5 : Int32).toNatClampNeg)
set_option maxHeartbeats 4000000 in
set_option maxRecDepth 100000 in
theorem kX5_hl (l : Launch) (D : va_G) (cI : ClassId) (o : Nat → Nat) (f : Nat → Int32) (a : Nat → Nat → Int32)  : KC l yX5_hl wsX5_hl 0 [.ref (o 20)] D cI (wR cI o f a) (wR cI o f a) (some (.int (rHl f a))) := by
  refine KC.of (cc := cX5_hl) (maxL := 1) (by decide) rfl (Nat.le_of_ble_eq_true rfl) ?_
  intro p e s m below meth c A hx hb hr hts hown hlocks hml hK hP hD hS hA ls hl
  have hl : lv_has ls 1 [(0, .ref (o 20))] := hl
  have hown : s.vm.findClass RX5 = some m.cls := hown
  have hi5 : ∀ w ∈ u_ws RX5 TX5 24, w ∈ wsX5_hl := fun w h => List.mem_cons_of_mem _ (List.mem_append_right _ h)
  refine lv_aload_n hx hb dX5_hl_0 rfl (lv_at hl 0 rfl) ?_
  refine va_get (ci := 5) (v := .ref (o 23)) (C := RX5) (T := TX5) (N := 24) hx hb hts hi5 hown hK hP 0 rfl rfl 3 (by decide) (hts (.fieldLink RX5 16 "InvaderBoardModel" "reg" "[I") (List.mem_cons_of_mem _ (List.mem_append_left _ (List.mem_of_getElem? (i := 0) rfl)))) (fun _ h9 => h9) rfl dX5_hl_1 ?_
  refine lv_iconst (v := 4) hx hb dX5_hl_4 (by decide) ?_
  refine va_iald (f := a 2) hx hb hK hP 3 0 rfl rfl (by unfold vp_in; decide) dX5_hl_5 ?_
  refine lv_bipush (v := 8) hx hb dX5_hl_6 (by decide) ?_
  refine lv_ishl hx hb dX5_hl_8 ?_
  refine lv_aload_n hx hb dX5_hl_9 rfl (lv_at hl 0 rfl) ?_
  refine va_get (ci := 5) (v := .ref (o 23)) (C := RX5) (T := TX5) (N := 24) hx hb hts hi5 hown hK hP 0 rfl rfl 3 (by decide) (hts (.fieldLink RX5 16 "InvaderBoardModel" "reg" "[I") (List.mem_cons_of_mem _ (List.mem_append_left _ (List.mem_of_getElem? (i := 0) rfl)))) (fun _ h9 => h9) rfl dX5_hl_10 ?_
  refine lv_iconst (v := 5) hx hb dX5_hl_13 (by decide) ?_
  refine va_iald (f := a 2) hx hb hK hP 3 0 rfl rfl (by unfold vp_in; decide) dX5_hl_14 ?_
  refine lv_ior hx hb dX5_hl_15 ?_
  have hF : rHl f a = (((a 2) (4 : Int32).toNatClampNeg) <<< ((8 : Int32) &&& 31)) ||| ((a 2) (5 : Int32).toNatClampNeg) := rfl
  rw [hF]
  exact KC.reti hx hb hr hlocks hK hP hD hS dX5_hl_16 rfl
