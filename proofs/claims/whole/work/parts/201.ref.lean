def rThrown (f : Nat → Int32) (a : Nat → Nat → Int32)  : Int32 :=
  f 11
set_option maxHeartbeats 4000000 in
set_option maxRecDepth 100000 in
theorem kX5_thrown (l : Launch) (D : va_G) (cI : ClassId) (o : Nat → Nat) (f : Nat → Int32) (a : Nat → Nat → Int32)  : KC l yX5_thrown wsX5_thrown 0 [.ref (o 20)] D cI (wR cI o f a) (wR cI o f a) (some (.int (rThrown f a))) := by
  refine KC.of (cc := cX5_thrown) (maxL := 1) (by decide) rfl (Nat.le_of_ble_eq_true rfl) ?_
  intro p e s m below meth c A hx hb hr hts hown hlocks hml hK hP hD hS hA ls hl
  have hl : lv_has ls 1 [(0, .ref (o 20))] := hl
  have hown : s.vm.findClass RX5 = some m.cls := hown
  have hi5 : ∀ w ∈ u_ws RX5 TX5 24, w ∈ wsX5_thrown := fun w h => List.mem_cons_of_mem _ (List.mem_append_right _ h)
  refine lv_aload_n hx hb dX5_thrown_0 rfl (lv_at hl 0 rfl) ?_
  refine va_get (ci := 5) (v := .int (f 11)) (C := RX5) (T := TX5) (N := 24) hx hb hts hi5 hown hK hP 0 rfl rfl 0 (by decide) (hts (.fieldLink RX5 28 "InvaderBoardModel" "code" "I") (List.mem_cons_of_mem _ (List.mem_append_left _ (List.mem_of_getElem? (i := 0) rfl)))) (fun _ h9 => h9) rfl dX5_thrown_1 ?_
  have hF : rThrown f a = f 11 := rfl
  rw [hF]
  exact KC.reti hx hb hr hlocks hK hP hD hS dX5_thrown_4 rfl
def rRead (f : Nat → Int32) (a : Nat → Nat → Int32) (p1 : Int32) : Int32 :=
  if ((p1 &&& (65535 : Int32)) &&& (16383 : Int32)) < (8192 : Int32) then if (2048 : Int32) ≤ (p1 &&& (65535 : Int32)) then (0 : Int32)
    else (a 0) (p1 &&& (65535 : Int32)).toNatClampNeg
  else (a 1) (((p1 &&& (65535 : Int32)) &&& (16383 : Int32)) - (8192 : Int32)).toNatClampNeg
set_option maxHeartbeats 4000000 in
set_option maxRecDepth 100000 in
theorem kX5_read (l : Launch) (D : va_G) (cI : ClassId) (o : Nat → Nat) (f : Nat → Int32) (a : Nat → Nat → Int32) (p1 : Int32) : KC l yX5_read wsX5_read 0 [.ref (o 20), .int p1] D cI (wR cI o f a) (wR cI o f a) (some (.int (rRead f a p1))) := by
  refine KC.of (cc := cX5_read) (maxL := 4) (by decide) rfl (Nat.le_of_ble_eq_true rfl) ?_
  intro p e s m below meth c A hx hb hr hts hown hlocks hml hK hP hD hS hA ls hl
  have hl : lv_has ls 4 [(0, .ref (o 20)), (1, .int p1)] := hl
  have hown : s.vm.findClass RX5 = some m.cls := hown
  have hi5 : ∀ w ∈ u_ws RX5 TX5 24, w ∈ wsX5_read := fun w h => List.mem_cons_of_mem _ (List.mem_append_right _ h)
  refine lv_iload_n hx hb dX5_read_0 rfl (lv_at hl 1 rfl) ?_
  refine lv_ldc (v := 65535) hx hb hown (hts (.constant RX5 32 65535) (List.mem_cons_of_mem _ (List.mem_append_left _ (List.mem_of_getElem? (i := 0) rfl)))) dX5_read_1 ?_
  refine lv_iand hx hb dX5_read_3 ?_
  refine lv_istore_n (lv' := [(2, .int _), (0, .ref _), (1, .int _)]) hx hb dX5_read_4 rfl hl (by decide) rfl (fun ls hl => ?_)
  refine lv_iload_n hx hb dX5_read_5 rfl (lv_at hl 0 rfl) ?_
  refine lv_sipush (v := 16383) hx hb dX5_read_6 (by decide) ?_
  refine lv_iand hx hb dX5_read_9 ?_
  refine lv_istore_n (lv' := [(3, .int _), (2, .int _), (0, .ref _), (1, .int _)]) hx hb dX5_read_10 rfl hl (by decide) rfl (fun ls hl => ?_)
  refine lv_iload_n hx hb dX5_read_11 rfl (lv_at hl 0 rfl) ?_
  refine lv_sipush (v := 8192) hx hb dX5_read_12 (by decide) ?_
  refine lv_icmp_lt (tgt := 29) hx hb dX5_read_15 (by decide) (fun c_1 => ?_) (fun c_1 => ?_)
  · refine lv_iload_n hx hb dX5_read_29 rfl (lv_at hl 1 rfl) ?_
    refine lv_sipush (v := 2048) hx hb dX5_read_30 (by decide) ?_
    refine lv_icmp_ge (tgt := 45) hx hb dX5_read_33 (by decide) (fun c_2 => ?_) (fun c_2 => ?_)
    · refine lv_iconst (v := 0) hx hb dX5_read_45 (by decide) ?_
      have hF : rRead f a p1 = (0 : Int32) := by
        unfold rRead
        refine (if_pos c_1).trans ?_
        refine (if_pos c_2).trans ?_
        rfl
      rw [hF]
      exact KC.reti hx hb hr hlocks hK hP hD hS dX5_read_46 rfl
    · refine lv_aload_n hx hb dX5_read_36 rfl (lv_at hl 2 rfl) ?_
      refine va_get (ci := 5) (v := .ref (o 21)) (C := RX5) (T := TX5) (N := 24) hx hb hts hi5 hown hK hP 0 rfl rfl 1 (by decide) (hts (.fieldLink RX5 7 "InvaderBoardModel" "rom" "[I") (List.mem_cons_of_mem _ (List.mem_append_left _ (List.mem_of_getElem? (i := 2) rfl)))) (fun _ h9 => h9) rfl dX5_read_37 ?_
      refine lv_iload_n hx hb dX5_read_40 rfl (lv_at hl 1 rfl) ?_
      refine va_iald (f := a 0) hx hb hK hP 1 0 rfl rfl (xin_rom c_2) dX5_read_41 ?_
      refine lv_goto (tgt := 46) hx hb dX5_read_42 (by decide) ?_
      have hF : rRead f a p1 = (a 0) (p1 &&& (65535 : Int32)).toNatClampNeg := by
        unfold rRead
        refine (if_pos c_1).trans ?_
        refine (if_neg c_2).trans ?_
        rfl
      rw [hF]
      exact KC.reti hx hb hr hlocks hK hP hD hS dX5_read_46 rfl
  · refine lv_aload_n hx hb dX5_read_18 rfl (lv_at hl 2 rfl) ?_
    refine va_get (ci := 5) (v := .ref (o 22)) (C := RX5) (T := TX5) (N := 24) hx hb hts hi5 hown hK hP 0 rfl rfl 2 (by decide) (hts (.fieldLink RX5 13 "InvaderBoardModel" "ram" "[I") (List.mem_cons_of_mem _ (List.mem_append_left _ (List.mem_of_getElem? (i := 1) rfl)))) (fun _ h9 => h9) rfl dX5_read_19 ?_
    refine lv_iload_n hx hb dX5_read_22 rfl (lv_at hl 0 rfl) ?_
    refine lv_sipush (v := 8192) hx hb dX5_read_23 (by decide) ?_
    refine lv_isub hx hb dX5_read_26 ?_
    refine va_iald (f := a 1) hx hb hK hP 2 0 rfl rfl (xin_low _ c_1) dX5_read_27 ?_
    have hF : rRead f a p1 = (a 1) (((p1 &&& (65535 : Int32)) &&& (16383 : Int32)) - (8192 : Int32)).toNatClampNeg := by
      unfold rRead
      refine (if_neg c_1).trans ?_
      rfl
    rw [hF]
    exact KC.reti hx hb hr hlocks hK hP hD hS dX5_read_28 rfl
def rWrite (f : Nat → Int32) (a : Nat → Nat → Int32) (p1 : Int32) (p2 : Int32) : (Nat → Int32) :=
  if (p1 &&& (16383 : Int32)) < (8192 : Int32) then a 1
  else upd (a 1) ((p1 &&& (16383 : Int32)) - (8192 : Int32)).toNatClampNeg (p2 &&& (255 : Int32))
set_option maxHeartbeats 4000000 in
set_option maxRecDepth 100000 in
theorem kX5_write (l : Launch) (D : va_G) (cI : ClassId) (o : Nat → Nat) (f : Nat → Int32) (a : Nat → Nat → Int32) (p1 : Int32) (p2 : Int32) : KC l yX5_write wsX5_write 0 [.ref (o 20), .int p1, .int p2] D cI (wR cI o f a) (wR cI o f (ua a 1 (rWrite f a p1 p2))) none := by
  refine KC.of (cc := cX5_write) (maxL := 4) (by decide) rfl (Nat.le_of_ble_eq_true rfl) ?_
  intro p e s m below meth c A hx hb hr hts hown hlocks hml hK hP hD hS hA ls hl
  have hl : lv_has ls 4 [(0, .ref (o 20)), (1, .int p1), (2, .int p2)] := hl
  have hown : s.vm.findClass RX5 = some m.cls := hown
  have hi5 : ∀ w ∈ u_ws RX5 TX5 24, w ∈ wsX5_write := fun w h => List.mem_cons_of_mem _ (List.mem_append_right _ h)
  refine lv_iload_n hx hb dX5_write_0 rfl (lv_at hl 1 rfl) ?_
  refine lv_sipush (v := 16383) hx hb dX5_write_1 (by decide) ?_
  refine lv_iand hx hb dX5_write_4 ?_
  refine lv_istore_n (lv' := [(3, .int _), (0, .ref _), (1, .int _), (2, .int _)]) hx hb dX5_write_5 rfl hl (by decide) rfl (fun ls hl => ?_)
  refine lv_iload_n hx hb dX5_write_6 rfl (lv_at hl 0 rfl) ?_
  refine lv_sipush (v := 8192) hx hb dX5_write_7 (by decide) ?_
  refine lv_icmp_lt (tgt := 28) hx hb dX5_write_10 (by decide) (fun c_1 => ?_) (fun c_1 => ?_)
  · have hF : rWrite f a p1 p2 = a 1 := by
      unfold rWrite
      refine (if_pos c_1).trans ?_
      rfl
    rw [hF]
    exact KC.retv hx hb hr hlocks hK hP hD hS dX5_write_28
  · refine lv_aload_n hx hb dX5_write_13 rfl (lv_at hl 1 rfl) ?_
    refine va_get (ci := 5) (v := .ref (o 22)) (C := RX5) (T := TX5) (N := 24) hx hb hts hi5 hown hK hP 0 rfl rfl 2 (by decide) (hts (.fieldLink RX5 13 "InvaderBoardModel" "ram" "[I") (List.mem_cons_of_mem _ (List.mem_append_left _ (List.mem_of_getElem? (i := 0) rfl)))) (fun _ h9 => h9) rfl dX5_write_14 ?_
    refine lv_iload_n hx hb dX5_write_17 rfl (lv_at hl 0 rfl) ?_
    refine lv_sipush (v := 8192) hx hb dX5_write_18 (by decide) ?_
    refine lv_isub hx hb dX5_write_21 ?_
    refine lv_iload_n hx hb dX5_write_22 rfl (lv_at hl 3 rfl) ?_
    refine lv_sipush (v := 255) hx hb dX5_write_23 (by decide) ?_
    refine lv_iand hx hb dX5_write_26 ?_
    refine pu_R_a1 hx hb hK hP hD hS (xin_low _ c_1) dX5_write_27 (fun H locs hP hD hS => ?_)
    have hF : rWrite f a p1 p2 = upd (a 1) ((p1 &&& (16383 : Int32)) - (8192 : Int32)).toNatClampNeg (p2 &&& (255 : Int32)) := by
      unfold rWrite
      refine (if_neg c_1).trans ?_
      rfl
    rw [hF]
    exact KC.retv hx hb hr hlocks hK hP hD hS dX5_write_28
