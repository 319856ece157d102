theorem xin_bit {p1 p2 : Int32} (h1 : vp_in p1 224) (h2 : vp_in p2 256) : vp_in (((1024 : Int32) + ((32 : Int32) * p1)) + (((255 : Int32) - p2) / (8 : Int32))) 8192 := by
  obtain ⟨i, hi, rfl⟩ := vp_in_of h1 (by decide)
  obtain ⟨j, hj, rfl⟩ := vp_in_of h2 (by decide)
  rw [show (255 : Int32) = nI 255 from rfl, show (8 : Int32) = nI 8 from rfl, show (32 : Int32) = nI 32 from rfl, show (1024 : Int32) = nI 1024 from rfl, pk_sub (by omega), pk_div (by omega) (by decide) (by decide), pk_mul, nI_add, nI_add]
  exact vp_in_nI (by omega) (by decide)
def rBit (f : Nat → Int32) (a : Nat → Nat → Int32) (p1 : Int32) (p2 : Int32) : Int32 :=
  (((a 1) (((1024 : Int32) + ((32 : Int32) * p1)) + (((255 : Int32) - p2) / (8 : Int32))).toNatClampNeg) >>> ((((255 : Int32) - p2) - ((255 : Int32) - p2) / (8 : Int32) * (8 : Int32)) &&& 31)) &&& (1 : Int32)
set_option maxHeartbeats 4000000 in
set_option maxRecDepth 100000 in
theorem kX5_bit (l : Launch) (D : va_G) (cI : ClassId) (o : Nat → Nat) (f : Nat → Int32) (a : Nat → Nat → Int32) (p1 : Int32) (p2 : Int32) (h1 : vp_in p1 224) (h2 : vp_in p2 256) : KC l yX5_bit wsX5_bit 0 [.ref (o 20), .int p1, .int p2] D cI (wR cI o f a) (wR cI o f a) (some (.int (rBit f a p1 p2))) := by
  refine KC.of (cc := cX5_bit) (maxL := 3) (by decide) rfl (Nat.le_of_ble_eq_true rfl) ?_
  intro p e s m below meth c A hx hb hr hts hown hlocks hml hK hP hD hS hA ls hl
  have hl : lv_has ls 3 [(0, .ref (o 20)), (1, .int p1), (2, .int p2)] := hl
  have hown : s.vm.findClass RX5 = some m.cls := hown
  have hi5 : ∀ w ∈ u_ws RX5 TX5 24, w ∈ wsX5_bit := fun w h => List.mem_cons_of_mem _ (List.mem_append_right _ h)
  refine lv_aload_n hx hb dX5_bit_0 rfl (lv_at hl 0 rfl) ?_
  refine va_get (ci := 5) (v := .ref (o 22)) (C := RX5) (T := TX5) (N := 24) hx hb hts hi5 hown hK hP 0 rfl rfl 2 (by decide) (hts (.fieldLink RX5 13 "InvaderBoardModel" "ram" "[I") (List.mem_cons_of_mem _ (List.mem_append_left _ (List.mem_of_getElem? (i := 0) rfl)))) (fun _ h9 => h9) rfl dX5_bit_1 ?_
  refine lv_sipush (v := 1024) hx hb dX5_bit_4 (by decide) ?_
  refine lv_bipush (v := 32) hx hb dX5_bit_7 (by decide) ?_
  refine lv_iload_n hx hb dX5_bit_9 rfl (lv_at hl 1 rfl) ?_
  refine lv_imul hx hb dX5_bit_10 ?_
  refine lv_iadd hx hb dX5_bit_11 ?_
  refine lv_sipush (v := 255) hx hb dX5_bit_12 (by decide) ?_
  refine lv_iload_n hx hb dX5_bit_15 rfl (lv_at hl 2 rfl) ?_
  refine lv_isub hx hb dX5_bit_16 ?_
  refine lv_bipush (v := 8) hx hb dX5_bit_17 (by decide) ?_
  refine lv_idiv hx hb dX5_bit_19 (by decide) ?_
  refine lv_iadd hx hb dX5_bit_20 ?_
  refine va_iald (f := a 1) hx hb hK hP 2 0 rfl rfl (xin_bit h1 h2) dX5_bit_21 ?_
  refine lv_sipush (v := 255) hx hb dX5_bit_22 (by decide) ?_
  refine lv_iload_n hx hb dX5_bit_25 rfl (lv_at hl 2 rfl) ?_
  refine lv_isub hx hb dX5_bit_26 ?_
  refine lv_bipush (v := 8) hx hb dX5_bit_27 (by decide) ?_
  refine lv_irem hx hb dX5_bit_29 (by decide) ?_
  refine lv_ishr hx hb dX5_bit_30 ?_
  refine lv_iconst (v := 1) hx hb dX5_bit_31 (by decide) ?_
  refine lv_iand hx hb dX5_bit_32 ?_
  have hF : rBit f a p1 p2 = (((a 1) (((1024 : Int32) + ((32 : Int32) * p1)) + (((255 : Int32) - p2) / (8 : Int32))).toNatClampNeg) >>> ((((255 : Int32) - p2) - ((255 : Int32) - p2) / (8 : Int32) * (8 : Int32)) &&& 31)) &&& (1 : Int32) := rfl
  rw [hF]
  exact KC.reti hx hb hr hlocks hK hP hD hS dX5_bit_33 rfl
def rDot (f : Nat → Int32) (a : Nat → Nat → Int32) (p1 : Int32) (p2 : Int32) : Int32 × (Nat → Int32) :=
  if p1 < 0 then ((0 : Int32), upd f 11 (1 : Int32))
  else if (223 : Int32) < p1 then ((0 : Int32), upd f 11 (1 : Int32))
    else if p2 < 0 then ((0 : Int32), upd f 11 (1 : Int32))
      else if p2 ≤ (255 : Int32) then (rBit (upd f 11 (0 : Int32)) a p1 p2, upd f 11 (0 : Int32))
        else ((0 : Int32), upd f 11 (1 : Int32))
set_option maxHeartbeats 4000000 in
set_option maxRecDepth 100000 in
theorem kX5_dot (l : Launch) (D : va_G) (cI : ClassId) (o : Nat → Nat) (f : Nat → Int32) (a : Nat → Nat → Int32) (p1 : Int32) (p2 : Int32) : KC l yX5_dot wsX5_dot 1 [.ref (o 20), .int p1, .int p2] D cI (wR cI o f a) (wR cI o ((rDot f a p1 p2).2) a) (some (.int (rDot f a p1 p2).1)) := by
  refine KC.of (cc := cX5_dot) (maxL := 3) (by decide) rfl (Nat.le_of_ble_eq_true rfl) ?_
  intro p e s m below meth c A hx hb hr hts hown hlocks hml hK hP hD hS hA ls hl
  have hl : lv_has ls 3 [(0, .ref (o 20)), (1, .int p1), (2, .int p2)] := hl
  have hown : s.vm.findClass RX5 = some m.cls := hown
  have hi5 : ∀ w ∈ u_ws RX5 TX5 24, w ∈ wsX5_dot := fun w h => List.mem_cons_of_mem _ (List.mem_append_right _ h)
  refine lv_aload_n hx hb dX5_dot_0 rfl (lv_at hl 0 rfl) ?_
  refine lv_iload_n hx hb dX5_dot_1 rfl (lv_at hl 1 rfl) ?_
  refine lv_if_lt (tgt := 23) hx hb dX5_dot_2 (by decide) (fun c_1 => ?_) (fun c_1 => ?_)
  · refine lv_iconst (v := 1) hx hb dX5_dot_23 (by decide) ?_
    refine lv_goto (tgt := 28) hx hb dX5_dot_24 (by decide) ?_
    refine pu_R_f11 (v := (1 : Int32)) hx hb hts hi5 hown hK hP hD hS (hts (.fieldLink RX5 28 "InvaderBoardModel" "code" "I") (List.mem_cons_of_mem _ (List.mem_append_left _ (List.mem_of_getElem? (i := 0) rfl)))) dX5_dot_28 (fun H locs hP hD hS => ?_)
    refine lv_aload_n hx hb dX5_dot_31 rfl (lv_at hl 0 rfl) ?_
    refine va_get (ci := 5) (v := .int (1 : Int32)) (C := RX5) (T := TX5) (N := 24) hx hb hts hi5 hown hK hP 0 rfl rfl 0 (by decide) (hts (.fieldLink RX5 28 "InvaderBoardModel" "code" "I") (List.mem_cons_of_mem _ (List.mem_append_left _ (List.mem_of_getElem? (i := 0) rfl)))) (fun _ h9 => h9) rfl dX5_dot_32 ?_
    refine lv_if_le (tgt := 42) hx hb dX5_dot_35 (by decide) (fun c_2 => ?_) (fun c_2 => ?_)
    · exact absurd c_2 (by decide)
    · refine lv_iconst (v := 0) hx hb dX5_dot_38 (by decide) ?_
      refine lv_goto (tgt := 48) hx hb dX5_dot_39 (by decide) ?_
      have hF : rDot f a p1 p2 = ((0 : Int32), upd f 11 (1 : Int32)) := by
        unfold rDot
        refine (if_pos c_1).trans ?_
        rfl
      rw [hF]
      exact KC.reti hx hb hr hlocks hK hP hD hS dX5_dot_48 rfl
  · refine lv_iload_n hx hb dX5_dot_5 rfl (lv_at hl 1 rfl) ?_
    refine lv_sipush (v := 223) hx hb dX5_dot_6 (by decide) ?_
    refine lv_icmp_gt (tgt := 23) hx hb dX5_dot_9 (by decide) (fun c_3 => ?_) (fun c_3 => ?_)
    · refine lv_iconst (v := 1) hx hb dX5_dot_23 (by decide) ?_
      refine lv_goto (tgt := 28) hx hb dX5_dot_24 (by decide) ?_
      refine pu_R_f11 (v := (1 : Int32)) hx hb hts hi5 hown hK hP hD hS (hts (.fieldLink RX5 28 "InvaderBoardModel" "code" "I") (List.mem_cons_of_mem _ (List.mem_append_left _ (List.mem_of_getElem? (i := 0) rfl)))) dX5_dot_28 (fun H locs hP hD hS => ?_)
      refine lv_aload_n hx hb dX5_dot_31 rfl (lv_at hl 0 rfl) ?_
      refine va_get (ci := 5) (v := .int (1 : Int32)) (C := RX5) (T := TX5) (N := 24) hx hb hts hi5 hown hK hP 0 rfl rfl 0 (by decide) (hts (.fieldLink RX5 28 "InvaderBoardModel" "code" "I") (List.mem_cons_of_mem _ (List.mem_append_left _ (List.mem_of_getElem? (i := 0) rfl)))) (fun _ h9 => h9) rfl dX5_dot_32 ?_
      refine lv_if_le (tgt := 42) hx hb dX5_dot_35 (by decide) (fun c_4 => ?_) (fun c_4 => ?_)
      · exact absurd c_4 (by decide)
      · refine lv_iconst (v := 0) hx hb dX5_dot_38 (by decide) ?_
        refine lv_goto (tgt := 48) hx hb dX5_dot_39 (by decide) ?_
        have hF : rDot f a p1 p2 = ((0 : Int32), upd f 11 (1 : Int32)) := by
          unfold rDot
          refine (if_neg c_1).trans ?_
          refine (if_pos c_3).trans ?_
          rfl
        rw [hF]
        exact KC.reti hx hb hr hlocks hK hP hD hS dX5_dot_48 rfl
    · refine lv_iload_n hx hb dX5_dot_12 rfl (lv_at hl 2 rfl) ?_
      refine lv_if_lt (tgt := 23) hx hb dX5_dot_13 (by decide) (fun c_5 => ?_) (fun c_5 => ?_)
      · refine lv_iconst (v := 1) hx hb dX5_dot_23 (by decide) ?_
        refine lv_goto (tgt := 28) hx hb dX5_dot_24 (by decide) ?_
        refine pu_R_f11 (v := (1 : Int32)) hx hb hts hi5 hown hK hP hD hS (hts (.fieldLink RX5 28 "InvaderBoardModel" "code" "I") (List.mem_cons_of_mem _ (List.mem_append_left _ (List.mem_of_getElem? (i := 0) rfl)))) dX5_dot_28 (fun H locs hP hD hS => ?_)
        refine lv_aload_n hx hb dX5_dot_31 rfl (lv_at hl 0 rfl) ?_
        refine va_get (ci := 5) (v := .int (1 : Int32)) (C := RX5) (T := TX5) (N := 24) hx hb hts hi5 hown hK hP 0 rfl rfl 0 (by decide) (hts (.fieldLink RX5 28 "InvaderBoardModel" "code" "I") (List.mem_cons_of_mem _ (List.mem_append_left _ (List.mem_of_getElem? (i := 0) rfl)))) (fun _ h9 => h9) rfl dX5_dot_32 ?_
        refine lv_if_le (tgt := 42) hx hb dX5_dot_35 (by decide) (fun c_6 => ?_) (fun c_6 => ?_)
        · exact absurd c_6 (by decide)
        · refine lv_iconst (v := 0) hx hb dX5_dot_38 (by decide) ?_
          refine lv_goto (tgt := 48) hx hb dX5_dot_39 (by decide) ?_
          have hF : rDot f a p1 p2 = ((0 : Int32), upd f 11 (1 : Int32)) := by
            unfold rDot
            refine (if_neg c_1).trans ?_
            refine (if_neg c_3).trans ?_
            refine (if_pos c_5).trans ?_
            rfl
          rw [hF]
          exact KC.reti hx hb hr hlocks hK hP hD hS dX5_dot_48 rfl
      · refine lv_iload_n hx hb dX5_dot_16 rfl (lv_at hl 2 rfl) ?_
        refine lv_sipush (v := 255) hx hb dX5_dot_17 (by decide) ?_
        refine lv_icmp_le (tgt := 27) hx hb dX5_dot_20 (by decide) (fun c_7 => ?_) (fun c_7 => ?_)
        · refine lv_iconst (v := 0) hx hb dX5_dot_27 (by decide) ?_
          refine pu_R_f11 (v := (0 : Int32)) hx hb hts hi5 hown hK hP hD hS (hts (.fieldLink RX5 28 "InvaderBoardModel" "code" "I") (List.mem_cons_of_mem _ (List.mem_append_left _ (List.mem_of_getElem? (i := 0) rfl)))) dX5_dot_28 (fun H locs hP hD hS => ?_)
          refine lv_aload_n hx hb dX5_dot_31 rfl (lv_at hl 0 rfl) ?_
          refine va_get (ci := 5) (v := .int (0 : Int32)) (C := RX5) (T := TX5) (N := 24) hx hb hts hi5 hown hK hP 0 rfl rfl 0 (by decide) (hts (.fieldLink RX5 28 "InvaderBoardModel" "code" "I") (List.mem_cons_of_mem _ (List.mem_append_left _ (List.mem_of_getElem? (i := 0) rfl)))) (fun _ h9 => h9) rfl dX5_dot_32 ?_
          refine lv_if_le (tgt := 42) hx hb dX5_dot_35 (by decide) (fun c_8 => ?_) (fun c_8 => ?_)
          · refine lv_aload_n hx hb dX5_dot_42 rfl (lv_at hl 0 rfl) ?_
            refine lv_iload_n hx hb dX5_dot_43 rfl (lv_at hl 1 rfl) ?_
            refine lv_iload_n hx hb dX5_dot_44 rfl (lv_at hl 2 rfl) ?_
            refine KC.calli (ci := 5) (rest := []) (wt := wR cI o (upd f 11 (0 : Int32)) a) (kX5_bit l D cI o (upd f 11 (0 : Int32)) a p1 p2 (xin_ng 223 (by decide) c_1 c_3) (xin_le 255 (by decide) c_5 c_7)) (cwV 2 hts gX5_dot_X5_bit rfl rfl rfl (by decide +kernel) ⟨Nat.le_of_ble_eq_true rfl, Nat.le_of_ble_eq_true rfl⟩) ⟨hx, hb, hml, hown, hts⟩ hK hP hD hS hA rfl rfl rfl [0, 1, 2, 3, 4, 5, 6] [] [0, 1, 2, 3, 4, 5, 6] (by decide) rfl (wr := []) rfl (by decide) (by decide) (by decide) rfl rfl hl.1 rfl (Nat.le_of_ble_eq_true rfl) dX5_dot_45 ⟨Nat.zero_le _, Nat.zero_le _⟩ (fun H locs hP hD hS => ?_)
            have hF : rDot f a p1 p2 = (rBit (upd f 11 (0 : Int32)) a p1 p2, upd f 11 (0 : Int32)) := by
              unfold rDot
              refine (if_neg c_1).trans ?_
              refine (if_neg c_3).trans ?_
              refine (if_neg c_5).trans ?_
              refine (if_pos c_7).trans ?_
              rfl
            rw [hF]
            exact KC.reti hx hb hr hlocks hK hP hD hS dX5_dot_48 rfl
          · exact absurd c_8 (by decide)
        · refine lv_iconst (v := 1) hx hb dX5_dot_23 (by decide) ?_
          refine lv_goto (tgt := 28) hx hb dX5_dot_24 (by decide) ?_
          refine pu_R_f11 (v := (1 : Int32)) hx hb hts hi5 hown hK hP hD hS (hts (.fieldLink RX5 28 "InvaderBoardModel" "code" "I") (List.mem_cons_of_mem _ (List.mem_append_left _ (List.mem_of_getElem? (i := 0) rfl)))) dX5_dot_28 (fun H locs hP hD hS => ?_)
          refine lv_aload_n hx hb dX5_dot_31 rfl (lv_at hl 0 rfl) ?_
          refine va_get (ci := 5) (v := .int (1 : Int32)) (C := RX5) (T := TX5) (N := 24) hx hb hts hi5 hown hK hP 0 rfl rfl 0 (by decide) (hts (.fieldLink RX5 28 "InvaderBoardModel" "code" "I") (List.mem_cons_of_mem _ (List.mem_append_left _ (List.mem_of_getElem? (i := 0) rfl)))) (fun _ h9 => h9) rfl dX5_dot_32 ?_
          refine lv_if_le (tgt := 42) hx hb dX5_dot_35 (by decide) (fun c_9 => ?_) (fun c_9 => ?_)
          · exact absurd c_9 (by decide)
          · refine lv_iconst (v := 0) hx hb dX5_dot_38 (by decide) ?_
            refine lv_goto (tgt := 48) hx hb dX5_dot_39 (by decide) ?_
            have hF : rDot f a p1 p2 = ((0 : Int32), upd f 11 (1 : Int32)) := by
              unfold rDot
              refine (if_neg c_1).trans ?_
              refine (if_neg c_3).trans ?_
              refine (if_neg c_5).trans ?_
              refine (if_neg c_7).trans ?_
              rfl
            rw [hF]
            exact KC.reti hx hb hr hlocks hK hP hD hS dX5_dot_48 rfl
def rWorked (f : Nat → Int32) (a : Nat → Nat → Int32)  : Int32 × (Nat → Int32) × (Nat → Nat → Int32) :=
  if f 2 = 0 then if f 4 = 0 then (match rOne (upd (upd f 17 (f 3)) 3 (0 : Int32)) a with
      | (r_3, f_3, a_3) => if f_3 2 = 0 then if f_3 17 = 0 then (r_3, upd f_3 2 (0 : Int32), a_3)
          else (r_3, upd f_3 2 (1 : Int32), a_3)
        else (r_3, upd f_3 2 (1 : Int32), a_3))
    else ((1 : Int32), f, a)
  else if (f 10) ≤ 0 then if f 4 = 0 then (match rOne (upd (upd f 17 (f 3)) 3 (0 : Int32)) a with
        | (r_8, f_8, a_8) => if f_8 2 = 0 then if f_8 17 = 0 then (r_8, upd f_8 2 (0 : Int32), a_8)
            else (r_8, upd f_8 2 (1 : Int32), a_8)
          else (r_8, upd f_8 2 (1 : Int32), a_8))
      else ((1 : Int32), f, a)
    else (match rPush (upd (upd f 2 (0 : Int32)) 4 (0 : Int32)) a (f 1) with
      | (f_11, a_11) => ((11 : Int32), upd (upd f_11 1 ((8 : Int32) * (f_11 10))) 10 (0 : Int32), a_11))
set_option maxHeartbeats 4000000 in
set_option maxRecDepth 100000 in
theorem kX5_worked (l : Launch) (D : va_G) (cI : ClassId) (o : Nat → Nat) (f : Nat → Int32) (a : Nat → Nat → Int32)  (hR : ∀ q : Int32, ¬ rRead f a q < 0) (hs : narrow .boolean (.int (f 3)) = .int (f 3) ∧ fits .boolean (.int (f 3)) = true) : KC l yX5_worked wsX5_worked 6 [.ref (o 20)] D cI (wR cI o f a) (wR cI o ((rWorked f a).2.1) ((rWorked f a).2.2)) (some (.int (rWorked f a).1)) := by
  refine KC.of (cc := cX5_worked) (maxL := 2) (by decide) rfl (Nat.le_of_ble_eq_true rfl) ?_
  intro p e s m below meth c A hx hb hr hts hown hlocks hml hK hP hD hS hA ls hl
  have hl : lv_has ls 2 [(0, .ref (o 20))] := hl
  have hown : s.vm.findClass RX5 = some m.cls := hown
  have hi5 : ∀ w ∈ u_ws RX5 TX5 24, w ∈ wsX5_worked := fun w h => List.mem_cons_of_mem _ (List.mem_append_right _ h)
  refine lv_aload_n hx hb dX5_worked_0 rfl (lv_at hl 0 rfl) ?_
  refine va_get (ci := 5) (v := .int (f 2)) (C := RX5) (T := TX5) (N := 24) hx hb hts hi5 hown hK hP 0 rfl rfl 11 (by decide) (hts (.fieldLink RX5 148 "InvaderBoardModel" "enabled" "Z") (List.mem_cons_of_mem _ (List.mem_append_left _ (List.mem_append_left _ (List.mem_of_getElem? (i := 0) rfl))))) (fun _ h9 => h9) rfl dX5_worked_1 ?_
  refine lv_if_eq (tgt := 51) hx hb dX5_worked_4 (by decide) (fun c_1 => ?_) (fun c_1 => ?_)
  · refine lv_aload_n hx hb dX5_worked_51 rfl (lv_at hl 0 rfl) ?_
    refine va_get (ci := 5) (v := .int (f 4)) (C := RX5) (T := TX5) (N := 24) hx hb hts hi5 hown hK hP 0 rfl rfl 14 (by decide) (hts (.fieldLink RX5 82 "InvaderBoardModel" "halted" "Z") (List.mem_cons_of_mem _ (List.mem_append_left _ (List.mem_append_left _ (List.mem_of_getElem? (i := 2) rfl))))) (fun _ h9 => h9) rfl dX5_worked_52 ?_
    refine lv_if_eq (tgt := 60) hx hb dX5_worked_55 (by decide) (fun c_2 => ?_) (fun c_2 => ?_)
    · refine lv_aload_n hx hb dX5_worked_60 rfl (lv_at hl 0 rfl) ?_
      refine lv_aload_n hx hb dX5_worked_61 rfl (lv_at hl 0 rfl) ?_
      refine va_get (ci := 5) (v := .int (f 3)) (C := RX5) (T := TX5) (N := 24) hx hb hts hi5 hown hK hP 0 rfl rfl 13 (by decide) (hts (.fieldLink RX5 154 "InvaderBoardModel" "soon" "Z") (List.mem_cons_of_mem _ (List.mem_append_left _ (List.mem_append_left _ (List.mem_of_getElem? (i := 4) rfl))))) (fun _ h9 => h9) rfl dX5_worked_62 ?_
      refine pu_R_f17 (v := f 3) hx hb hts hi5 hown hK hP hD hS (hts (.fieldLink RX5 151 "InvaderBoardModel" "due" "Z") (List.mem_cons_of_mem _ (List.mem_append_left _ (List.mem_append_left _ (List.mem_of_getElem? (i := 5) rfl))))) hs.1 hs.2 dX5_worked_65 (fun H locs hP hD hS => ?_)
      refine lv_aload_n hx hb dX5_worked_68 rfl (lv_at hl 0 rfl) ?_
      refine lv_iconst (v := 0) hx hb dX5_worked_69 (by decide) ?_
      refine pu_R_f3 (v := (0 : Int32)) hx hb hts hi5 hown hK hP hD hS (hts (.fieldLink RX5 154 "InvaderBoardModel" "soon" "Z") (List.mem_cons_of_mem _ (List.mem_append_left _ (List.mem_append_left _ (List.mem_of_getElem? (i := 4) rfl))))) (by decide +kernel) (by decide +kernel) dX5_worked_70 (fun H locs hP hD hS => ?_)
      refine lv_aload_n hx hb dX5_worked_73 rfl (lv_at hl 0 rfl) ?_
      obtain ⟨r_3, f_3, a_3, hB_3⟩ := k_ex3 (rOne (upd (upd f 17 (f 3)) 3 (0 : Int32)) a)
      have kc_3 := kX5_one l D cI o (upd (upd f 17 (f 3)) 3 (0 : Int32)) a hR
      rw [hB_3] at kc_3; dsimp only at kc_3
      refine KC.calli (ci := 5) (rest := []) (wt := wR cI o f_3 a_3) (kc_3) (cwV 0 hts gX5_worked_X5_one rfl rfl rfl (by decide +kernel) ⟨Nat.le_of_ble_eq_true rfl, Nat.le_of_ble_eq_true rfl⟩) ⟨hx, hb, hml, hown, hts⟩ hK hP hD hS hA rfl rfl rfl [0, 1, 2, 3, 4, 5, 6] [] [0, 1, 2, 3, 4, 5, 6] (by decide) rfl (wr := []) rfl (by decide) (by decide) (by decide) rfl rfl hl.1 rfl (Nat.le_of_ble_eq_true rfl) dX5_worked_74 ⟨Nat.zero_le _, Nat.zero_le _⟩ (fun H locs hP hD hS => ?_)
      refine lv_istore_n (lv' := [(1, .int _), (0, .ref _)]) hx hb dX5_worked_77 rfl hl (by decide) rfl (fun ls hl => ?_)
      refine lv_aload_n hx hb dX5_worked_78 rfl (lv_at hl 1 rfl) ?_
      refine lv_aload_n hx hb dX5_worked_79 rfl (lv_at hl 1 rfl) ?_
      refine va_get (ci := 5) (v := .int (f_3 2)) (C := RX5) (T := TX5) (N := 24) hx hb hts hi5 hown hK hP 0 rfl rfl 11 (by decide) (hts (.fieldLink RX5 148 "InvaderBoardModel" "enabled" "Z") (List.mem_cons_of_mem _ (List.mem_append_left _ (List.mem_append_left _ (List.mem_of_getElem? (i := 0) rfl))))) (fun _ h9 => h9) rfl dX5_worked_80 ?_
      refine lv_if_ne (tgt := 93) hx hb dX5_worked_83 (by decide) (fun c_4 => ?_) (fun c_4 => ?_)
      · refine lv_iconst (v := 1) hx hb dX5_worked_93 (by decide) ?_
        refine lv_goto (tgt := 98) hx hb dX5_worked_94 (by decide) ?_
        refine pu_R_f2 (v := (1 : Int32)) hx hb hts hi5 hown hK hP hD hS (hts (.fieldLink RX5 148 "InvaderBoardModel" "enabled" "Z") (List.mem_cons_of_mem _ (List.mem_append_left _ (List.mem_append_left _ (List.mem_of_getElem? (i := 0) rfl))))) (by decide +kernel) (by decide +kernel) dX5_worked_98 (fun H locs hP hD hS => ?_)
        refine lv_iload_n hx hb dX5_worked_101 rfl (lv_at hl 0 rfl) ?_
        have hF : rWorked f a = (r_3, upd f_3 2 (1 : Int32), a_3) := by
          unfold rWorked
          refine (if_pos c_1).trans ?_
          refine (if_pos c_2).trans ?_
          rewrite [hB_3]
          dsimp only
          refine (if_neg c_4).trans ?_
          rfl
        rw [hF]
        exact KC.reti hx hb hr hlocks hK hP hD hS dX5_worked_102 rfl
      · refine lv_aload_n hx hb dX5_worked_86 rfl (lv_at hl 1 rfl) ?_
        refine va_get (ci := 5) (v := .int (f_3 17)) (C := RX5) (T := TX5) (N := 24) hx hb hts hi5 hown hK hP 0 rfl rfl 12 (by decide) (hts (.fieldLink RX5 151 "InvaderBoardModel" "due" "Z") (List.mem_cons_of_mem _ (List.mem_append_left _ (List.mem_append_left _ (List.mem_of_getElem? (i := 5) rfl))))) (fun _ h9 => h9) rfl dX5_worked_87 ?_
        refine lv_if_eq (tgt := 97) hx hb dX5_worked_90 (by decide) (fun c_5 => ?_) (fun c_5 => ?_)
        · refine lv_iconst (v := 0) hx hb dX5_worked_97 (by decide) ?_
          refine pu_R_f2 (v := (0 : Int32)) hx hb hts hi5 hown hK hP hD hS (hts (.fieldLink RX5 148 "InvaderBoardModel" "enabled" "Z") (List.mem_cons_of_mem _ (List.mem_append_left _ (List.mem_append_left _ (List.mem_of_getElem? (i := 0) rfl))))) (by decide +kernel) (by decide +kernel) dX5_worked_98 (fun H locs hP hD hS => ?_)
          refine lv_iload_n hx hb dX5_worked_101 rfl (lv_at hl 0 rfl) ?_
          have hF : rWorked f a = (r_3, upd f_3 2 (0 : Int32), a_3) := by
            unfold rWorked
            refine (if_pos c_1).trans ?_
            refine (if_pos c_2).trans ?_
            rewrite [hB_3]
            dsimp only
            refine (if_pos c_4).trans ?_
            refine (if_pos c_5).trans ?_
            rfl
          rw [hF]
          exact KC.reti hx hb hr hlocks hK hP hD hS dX5_worked_102 rfl
        · refine lv_iconst (v := 1) hx hb dX5_worked_93 (by decide) ?_
          refine lv_goto (tgt := 98) hx hb dX5_worked_94 (by decide) ?_
          refine pu_R_f2 (v := (1 : Int32)) hx hb hts hi5 hown hK hP hD hS (hts (.fieldLink RX5 148 "InvaderBoardModel" "enabled" "Z") (List.mem_cons_of_mem _ (List.mem_append_left _ (List.mem_append_left _ (List.mem_of_getElem? (i := 0) rfl))))) (by decide +kernel) (by decide +kernel) dX5_worked_98 (fun H locs hP hD hS => ?_)
          refine lv_iload_n hx hb dX5_worked_101 rfl (lv_at hl 0 rfl) ?_
          have hF : rWorked f a = (r_3, upd f_3 2 (1 : Int32), a_3) := by
            unfold rWorked
            refine (if_pos c_1).trans ?_
            refine (if_pos c_2).trans ?_
            rewrite [hB_3]
            dsimp only
            refine (if_pos c_4).trans ?_
            refine (if_neg c_5).trans ?_
            rfl
          rw [hF]
          exact KC.reti hx hb hr hlocks hK hP hD hS dX5_worked_102 rfl
    · refine lv_iconst (v := 1) hx hb dX5_worked_58 (by decide) ?_
      have hF : rWorked f a = ((1 : Int32), f, a) := by
        unfold rWorked
        refine (if_pos c_1).trans ?_
        refine (if_neg c_2).trans ?_
        rfl
      rw [hF]
      exact KC.reti hx hb hr hlocks hK hP hD hS dX5_worked_59 rfl
  · refine lv_aload_n hx hb dX5_worked_7 rfl (lv_at hl 0 rfl) ?_
    refine va_get (ci := 5) (v := .int (f 10)) (C := RX5) (T := TX5) (N := 24) hx hb hts hi5 hown hK hP 0 rfl rfl 15 (by decide) (hts (.fieldLink RX5 166 "InvaderBoardModel" "request" "I") (List.mem_cons_of_mem _ (List.mem_append_left _ (List.mem_append_left _ (List.mem_of_getElem? (i := 1) rfl))))) (fun _ h9 => h9) rfl dX5_worked_8 ?_
    refine lv_if_le (tgt := 51) hx hb dX5_worked_11 (by decide) (fun c_6 => ?_) (fun c_6 => ?_)
    · refine lv_aload_n hx hb dX5_worked_51 rfl (lv_at hl 0 rfl) ?_
      refine va_get (ci := 5) (v := .int (f 4)) (C := RX5) (T := TX5) (N := 24) hx hb hts hi5 hown hK hP 0 rfl rfl 14 (by decide) (hts (.fieldLink RX5 82 "InvaderBoardModel" "halted" "Z") (List.mem_cons_of_mem _ (List.mem_append_left _ (List.mem_append_left _ (List.mem_of_getElem? (i := 2) rfl))))) (fun _ h9 => h9) rfl dX5_worked_52 ?_
      refine lv_if_eq (tgt := 60) hx hb dX5_worked_55 (by decide) (fun c_7 => ?_) (fun c_7 => ?_)
      · refine lv_aload_n hx hb dX5_worked_60 rfl (lv_at hl 0 rfl) ?_
        refine lv_aload_n hx hb dX5_worked_61 rfl (lv_at hl 0 rfl) ?_
        refine va_get (ci := 5) (v := .int (f 3)) (C := RX5) (T := TX5) (N := 24) hx hb hts hi5 hown hK hP 0 rfl rfl 13 (by decide) (hts (.fieldLink RX5 154 "InvaderBoardModel" "soon" "Z") (List.mem_cons_of_mem _ (List.mem_append_left _ (List.mem_append_left _ (List.mem_of_getElem? (i := 4) rfl))))) (fun _ h9 => h9) rfl dX5_worked_62 ?_
        refine pu_R_f17 (v := f 3) hx hb hts hi5 hown hK hP hD hS (hts (.fieldLink RX5 151 "InvaderBoardModel" "due" "Z") (List.mem_cons_of_mem _ (List.mem_append_left _ (List.mem_append_left _ (List.mem_of_getElem? (i := 5) rfl))))) hs.1 hs.2 dX5_worked_65 (fun H locs hP hD hS => ?_)
        refine lv_aload_n hx hb dX5_worked_68 rfl (lv_at hl 0 rfl) ?_
        refine lv_iconst (v := 0) hx hb dX5_worked_69 (by decide) ?_
        refine pu_R_f3 (v := (0 : Int32)) hx hb hts hi5 hown hK hP hD hS (hts (.fieldLink RX5 154 "InvaderBoardModel" "soon" "Z") (List.mem_cons_of_mem _ (List.mem_append_left _ (List.mem_append_left _ (List.mem_of_getElem? (i := 4) rfl))))) (by decide +kernel) (by decide +kernel) dX5_worked_70 (fun H locs hP hD hS => ?_)
        refine lv_aload_n hx hb dX5_worked_73 rfl (lv_at hl 0 rfl) ?_
        obtain ⟨r_8, f_8, a_8, hB_8⟩ := k_ex3 (rOne (upd (upd f 17 (f 3)) 3 (0 : Int32)) a)
        have kc_8 := kX5_one l D cI o (upd (upd f 17 (f 3)) 3 (0 : Int32)) a hR
        rw [hB_8] at kc_8; dsimp only at kc_8
        refine KC.calli (ci := 5) (rest := []) (wt := wR cI o f_8 a_8) (kc_8) (cwV 0 hts gX5_worked_X5_one rfl rfl rfl (by decide +kernel) ⟨Nat.le_of_ble_eq_true rfl, Nat.le_of_ble_eq_true rfl⟩) ⟨hx, hb, hml, hown, hts⟩ hK hP hD hS hA rfl rfl rfl [0, 1, 2, 3, 4, 5, 6] [] [0, 1, 2, 3, 4, 5, 6] (by decide) rfl (wr := []) rfl (by decide) (by decide) (by decide) rfl rfl hl.1 rfl (Nat.le_of_ble_eq_true rfl) dX5_worked_74 ⟨Nat.zero_le _, Nat.zero_le _⟩ (fun H locs hP hD hS => ?_)
        refine lv_istore_n (lv' := [(1, .int _), (0, .ref _)]) hx hb dX5_worked_77 rfl hl (by decide) rfl (fun ls hl => ?_)
        refine lv_aload_n hx hb dX5_worked_78 rfl (lv_at hl 1 rfl) ?_
        refine lv_aload_n hx hb dX5_worked_79 rfl (lv_at hl 1 rfl) ?_
        refine va_get (ci := 5) (v := .int (f_8 2)) (C := RX5) (T := TX5) (N := 24) hx hb hts hi5 hown hK hP 0 rfl rfl 11 (by decide) (hts (.fieldLink RX5 148 "InvaderBoardModel" "enabled" "Z") (List.mem_cons_of_mem _ (List.mem_append_left _ (List.mem_append_left _ (List.mem_of_getElem? (i := 0) rfl))))) (fun _ h9 => h9) rfl dX5_worked_80 ?_
        refine lv_if_ne (tgt := 93) hx hb dX5_worked_83 (by decide) (fun c_9 => ?_) (fun c_9 => ?_)
        · refine lv_iconst (v := 1) hx hb dX5_worked_93 (by decide) ?_
          refine lv_goto (tgt := 98) hx hb dX5_worked_94 (by decide) ?_
          refine pu_R_f2 (v := (1 : Int32)) hx hb hts hi5 hown hK hP hD hS (hts (.fieldLink RX5 148 "InvaderBoardModel" "enabled" "Z") (List.mem_cons_of_mem _ (List.mem_append_left _ (List.mem_append_left _ (List.mem_of_getElem? (i := 0) rfl))))) (by decide +kernel) (by decide +kernel) dX5_worked_98 (fun H locs hP hD hS => ?_)
          refine lv_iload_n hx hb dX5_worked_101 rfl (lv_at hl 0 rfl) ?_
          have hF : rWorked f a = (r_8, upd f_8 2 (1 : Int32), a_8) := by
            unfold rWorked
            refine (if_neg c_1).trans ?_
            refine (if_pos c_6).trans ?_
            refine (if_pos c_7).trans ?_
            rewrite [hB_8]
            dsimp only
            refine (if_neg c_9).trans ?_
            rfl
          rw [hF]
          exact KC.reti hx hb hr hlocks hK hP hD hS dX5_worked_102 rfl
        · refine lv_aload_n hx hb dX5_worked_86 rfl (lv_at hl 1 rfl) ?_
          refine va_get (ci := 5) (v := .int (f_8 17)) (C := RX5) (T := TX5) (N := 24) hx hb hts hi5 hown hK hP 0 rfl rfl 12 (by decide) (hts (.fieldLink RX5 151 "InvaderBoardModel" "due" "Z") (List.mem_cons_of_mem _ (List.mem_append_left _ (List.mem_append_left _ (List.mem_of_getElem? (i := 5) rfl))))) (fun _ h9 => h9) rfl dX5_worked_87 ?_
          refine lv_if_eq (tgt := 97) hx hb dX5_worked_90 (by decide) (fun c_10 => ?_) (fun c_10 => ?_)
          · refine lv_iconst (v := 0) hx hb dX5_worked_97 (by decide) ?_
            refine pu_R_f2 (v := (0 : Int32)) hx hb hts hi5 hown hK hP hD hS (hts (.fieldLink RX5 148 "InvaderBoardModel" "enabled" "Z") (List.mem_cons_of_mem _ (List.mem_append_left _ (List.mem_append_left _ (List.mem_of_getElem? (i := 0) rfl))))) (by decide +kernel) (by decide +kernel) dX5_worked_98 (fun H locs hP hD hS => ?_)
            refine lv_iload_n hx hb dX5_worked_101 rfl (lv_at hl 0 rfl) ?_
            have hF : rWorked f a = (r_8, upd f_8 2 (0 : Int32), a_8) := by
              unfold rWorked
              refine (if_neg c_1).trans ?_
              refine (if_pos c_6).trans ?_
              refine (if_pos c_7).trans ?_
              rewrite [hB_8]
              dsimp only
              refine (if_pos c_9).trans ?_
              refine (if_pos c_10).trans ?_
              rfl
            rw [hF]
            exact KC.reti hx hb hr hlocks hK hP hD hS dX5_worked_102 rfl
          · refine lv_iconst (v := 1) hx hb dX5_worked_93 (by decide) ?_
            refine lv_goto (tgt := 98) hx hb dX5_worked_94 (by decide) ?_
            refine pu_R_f2 (v := (1 : Int32)) hx hb hts hi5 hown hK hP hD hS (hts (.fieldLink RX5 148 "InvaderBoardModel" "enabled" "Z") (List.mem_cons_of_mem _ (List.mem_append_left _ (List.mem_append_left _ (List.mem_of_getElem? (i := 0) rfl))))) (by decide +kernel) (by decide +kernel) dX5_worked_98 (fun H locs hP hD hS => ?_)
            refine lv_iload_n hx hb dX5_worked_101 rfl (lv_at hl 0 rfl) ?_
            have hF : rWorked f a = (r_8, upd f_8 2 (1 : Int32), a_8) := by
              unfold rWorked
              refine (if_neg c_1).trans ?_
              refine (if_pos c_6).trans ?_
              refine (if_pos c_7).trans ?_
              rewrite [hB_8]
              dsimp only
              refine (if_pos c_9).trans ?_
              refine (if_neg c_10).trans ?_
              rfl
            rw [hF]
            exact KC.reti hx hb hr hlocks hK hP hD hS dX5_worked_102 rfl
      · refine lv_iconst (v := 1) hx hb dX5_worked_58 (by decide) ?_
        have hF : rWorked f a = ((1 : Int32), f, a) := by
          unfold rWorked
          refine (if_neg c_1).trans ?_
          refine (if_pos c_6).trans ?_
          refine (if_neg c_7).trans ?_
          rfl
        rw [hF]
        exact KC.reti hx hb hr hlocks hK hP hD hS dX5_worked_59 rfl
    · refine lv_aload_n hx hb dX5_worked_14 rfl (lv_at hl 0 rfl) ?_
      refine lv_iconst (v := 0) hx hb dX5_worked_15 (by decide) ?_
      refine pu_R_f2 (v := (0 : Int32)) hx hb hts hi5 hown hK hP hD hS (hts (.fieldLink RX5 148 "InvaderBoardModel" "enabled" "Z") (List.mem_cons_of_mem _ (List.mem_append_left _ (List.mem_append_left _ (List.mem_of_getElem? (i := 0) rfl))))) (by decide +kernel) (by decide +kernel) dX5_worked_16 (fun H locs hP hD hS => ?_)
      refine lv_aload_n hx hb dX5_worked_19 rfl (lv_at hl 0 rfl) ?_
      refine lv_iconst (v := 0) hx hb dX5_worked_20 (by decide) ?_
      refine pu_R_f4 (v := (0 : Int32)) hx hb hts hi5 hown hK hP hD hS (hts (.fieldLink RX5 82 "InvaderBoardModel" "halted" "Z") (List.mem_cons_of_mem _ (List.mem_append_left _ (List.mem_append_left _ (List.mem_of_getElem? (i := 2) rfl))))) (by decide +kernel) (by decide +kernel) dX5_worked_21 (fun H locs hP hD hS => ?_)
      refine lv_aload_n hx hb dX5_worked_24 rfl (lv_at hl 0 rfl) ?_
      refine lv_aload_n hx hb dX5_worked_25 rfl (lv_at hl 0 rfl) ?_
      refine va_get (ci := 5) (v := .int (f 1)) (C := RX5) (T := TX5) (N := 24) hx hb hts hi5 hown hK hP 0 rfl rfl 5 (by decide) (hts (.fieldLink RX5 33 "InvaderBoardModel" "pc" "I") (List.mem_cons_of_mem _ (List.mem_append_left _ (List.mem_append_left _ (List.mem_of_getElem? (i := 3) rfl))))) (fun _ h9 => h9) rfl dX5_worked_26 ?_
      obtain ⟨f_11, a_11, hB_11⟩ := k_ex2 (rPush (upd (upd f 2 (0 : Int32)) 4 (0 : Int32)) a (f 1))
      have kc_11 := kX5_push l D cI o (upd (upd f 2 (0 : Int32)) 4 (0 : Int32)) a (f 1)
      rw [hB_11] at kc_11; dsimp only at kc_11
      refine KC.callv (ci := 5) (rest := []) (wt := wR cI o f_11 a_11) (kc_11) (cwV 1 hts gX5_worked_X5_push rfl rfl rfl (by decide +kernel) ⟨Nat.le_of_ble_eq_true rfl, Nat.le_of_ble_eq_true rfl⟩) ⟨hx, hb, hml, hown, hts⟩ hK hP hD hS hA rfl rfl rfl [0, 1, 2, 3, 4, 5, 6] [] [0, 1, 2, 3, 4, 5, 6] (by decide) rfl (wr := []) rfl (by decide) (by decide) (by decide) rfl rfl hl.1 rfl (Nat.le_of_ble_eq_true rfl) dX5_worked_29 ⟨Nat.zero_le _, Nat.zero_le _⟩ (fun H locs hP hD hS => ?_)
      refine lv_aload_n hx hb dX5_worked_32 rfl (lv_at hl 0 rfl) ?_
      refine lv_bipush (v := 8) hx hb dX5_worked_33 (by decide) ?_
      refine lv_aload_n hx hb dX5_worked_35 rfl (lv_at hl 0 rfl) ?_
      refine va_get (ci := 5) (v := .int (f_11 10)) (C := RX5) (T := TX5) (N := 24) hx hb hts hi5 hown hK hP 0 rfl rfl 15 (by decide) (hts (.fieldLink RX5 166 "InvaderBoardModel" "request" "I") (List.mem_cons_of_mem _ (List.mem_append_left _ (List.mem_append_left _ (List.mem_of_getElem? (i := 1) rfl))))) (fun _ h9 => h9) rfl dX5_worked_36 ?_
      refine lv_imul hx hb dX5_worked_39 ?_
      refine pu_R_f1 (v := (8 : Int32) * (f_11 10)) hx hb hts hi5 hown hK hP hD hS (hts (.fieldLink RX5 33 "InvaderBoardModel" "pc" "I") (List.mem_cons_of_mem _ (List.mem_append_left _ (List.mem_append_left _ (List.mem_of_getElem? (i := 3) rfl))))) dX5_worked_40 (fun H locs hP hD hS => ?_)
      refine lv_aload_n hx hb dX5_worked_43 rfl (lv_at hl 0 rfl) ?_
      refine lv_iconst (v := 0) hx hb dX5_worked_44 (by decide) ?_
      refine pu_R_f10 (v := (0 : Int32)) hx hb hts hi5 hown hK hP hD hS (hts (.fieldLink RX5 166 "InvaderBoardModel" "request" "I") (List.mem_cons_of_mem _ (List.mem_append_left _ (List.mem_append_left _ (List.mem_of_getElem? (i := 1) rfl))))) dX5_worked_45 (fun H locs hP hD hS => ?_)
      refine lv_bipush (v := 11) hx hb dX5_worked_48 (by decide) ?_
      have hF : rWorked f a = ((11 : Int32), upd (upd f_11 1 ((8 : Int32) * (f_11 10))) 10 (0 : Int32), a_11) := by
        unfold rWorked
        refine (if_neg c_1).trans ?_
        refine (if_neg c_6).trans ?_
        rewrite [hB_11]
        rfl
      rw [hF]
      exact KC.reti hx hb hr hlocks hK hP hD hS dX5_worked_50 rfl
def rStep (f : Nat → Int32) (a : Nat → Nat → Int32)  : Int32 × (Nat → Int32) × (Nat → Nat → Int32) :=
  (match rWorked (upd f 11 (0 : Int32)) a with
  | (r_1, f_1, a_1) => if (16667 : Int32) ≤ (f_1 8) then if ((f_1 8) + r_1) < (33333 : Int32) then (r_1, upd f_1 8 ((f_1 8) + r_1), a_1)
      else if (f_1 7) + (1 : Int32) = (16 : Int32) then (match rClear (upd (upd (upd (upd (upd f_1 8 ((f_1 8) + r_1)) 8 (((f_1 8) + r_1) - (33333 : Int32))) 9 ((f_1 9) + (1 : Int32))) 7 ((f_1 7) + (1 : Int32))) 10 (2 : Int32)) a_1 with
          | (f_5, a_5) => (r_1, f_5, a_5))
        else (r_1, upd (upd (upd (upd (upd f_1 8 ((f_1 8) + r_1)) 8 (((f_1 8) + r_1) - (33333 : Int32))) 9 ((f_1 9) + (1 : Int32))) 7 ((f_1 7) + (1 : Int32))) 10 (2 : Int32), a_1)
    else if ((f_1 8) + r_1) < (16667 : Int32) then if ((f_1 8) + r_1) < (33333 : Int32) then (r_1, upd f_1 8 ((f_1 8) + r_1), a_1)
        else if (f_1 7) + (1 : Int32) = (16 : Int32) then (match rClear (upd (upd (upd (upd (upd f_1 8 ((f_1 8) + r_1)) 8 (((f_1 8) + r_1) - (33333 : Int32))) 9 ((f_1 9) + (1 : Int32))) 7 ((f_1 7) + (1 : Int32))) 10 (2 : Int32)) a_1 with
            | (f_9, a_9) => (r_1, f_9, a_9))
          else (r_1, upd (upd (upd (upd (upd f_1 8 ((f_1 8) + r_1)) 8 (((f_1 8) + r_1) - (33333 : Int32))) 9 ((f_1 9) + (1 : Int32))) 7 ((f_1 7) + (1 : Int32))) 10 (2 : Int32), a_1)
      else if ((f_1 8) + r_1) < (33333 : Int32) then (r_1, upd (upd f_1 8 ((f_1 8) + r_1)) 10 (1 : Int32), a_1)
        else if (f_1 7) + (1 : Int32) = (16 : Int32) then (match rClear (upd (upd (upd (upd (upd (upd f_1 8 ((f_1 8) + r_1)) 10 (1 : Int32)) 8 (((f_1 8) + r_1) - (33333 : Int32))) 9 ((f_1 9) + (1 : Int32))) 7 ((f_1 7) + (1 : Int32))) 10 (2 : Int32)) a_1 with
            | (f_12, a_12) => (r_1, f_12, a_12))
          else (r_1, upd (upd (upd (upd (upd (upd f_1 8 ((f_1 8) + r_1)) 10 (1 : Int32)) 8 (((f_1 8) + r_1) - (33333 : Int32))) 9 ((f_1 9) + (1 : Int32))) 7 ((f_1 7) + (1 : Int32))) 10 (2 : Int32), a_1))
set_option maxHeartbeats 4000000 in
set_option maxRecDepth 100000 in
theorem kX5_step (l : Launch) (D : va_G) (cI : ClassId) (o : Nat → Nat) (f : Nat → Int32) (a : Nat → Nat → Int32)  (hR : ∀ q : Int32, ¬ rRead f a q < 0) (hs : narrow .boolean (.int (f 3)) = .int (f 3) ∧ fits .boolean (.int (f 3)) = true) : KC l yX5_step wsX5_step 7 [.ref (o 20)] D cI (wR cI o f a) (wR cI o ((rStep f a).2.1) ((rStep f a).2.2)) (some (.int (rStep f a).1)) := by
  refine KC.of (cc := cX5_step) (maxL := 3) (by decide) rfl (Nat.le_of_ble_eq_true rfl) ?_
  intro p e s m below meth c A hx hb hr hts hown hlocks hml hK hP hD hS hA ls hl
  have hl : lv_has ls 3 [(0, .ref (o 20))] := hl
  have hown : s.vm.findClass RX5 = some m.cls := hown
  have hi5 : ∀ w ∈ u_ws RX5 TX5 24, w ∈ wsX5_step := fun w h => List.mem_cons_of_mem _ (List.mem_append_right _ h)
  refine lv_aload_n hx hb dX5_step_0 rfl (lv_at hl 0 rfl) ?_
  refine lv_iconst (v := 0) hx hb dX5_step_1 (by decide) ?_
  refine pu_R_f11 (v := (0 : Int32)) hx hb hts hi5 hown hK hP hD hS (hts (.fieldLink RX5 28 "InvaderBoardModel" "code" "I") (List.mem_cons_of_mem _ (List.mem_append_left _ (List.mem_append_left _ (List.mem_of_getElem? (i := 0) rfl))))) dX5_step_2 (fun H locs hP hD hS => ?_)
  refine lv_aload_n hx hb dX5_step_5 rfl (lv_at hl 0 rfl) ?_
  obtain ⟨r_1, f_1, a_1, hB_1⟩ := k_ex3 (rWorked (upd f 11 (0 : Int32)) a)
  have kc_1 := kX5_worked l D cI o (upd f 11 (0 : Int32)) a hR hs
  rw [hB_1] at kc_1; dsimp only at kc_1
  refine KC.calli (ci := 5) (rest := []) (wt := wR cI o f_1 a_1) (kc_1) (cwV 0 hts gX5_step_X5_worked rfl rfl rfl (by decide +kernel) ⟨Nat.le_of_ble_eq_true rfl, Nat.le_of_ble_eq_true rfl⟩) ⟨hx, hb, hml, hown, hts⟩ hK hP hD hS hA rfl rfl rfl [0, 1, 2, 3, 4, 5, 6] [] [0, 1, 2, 3, 4, 5, 6] (by decide) rfl (wr := []) rfl (by decide) (by decide) (by decide) rfl rfl hl.1 rfl (Nat.le_of_ble_eq_true rfl) dX5_step_6 ⟨Nat.zero_le _, Nat.zero_le _⟩ (fun H locs hP hD hS => ?_)
  refine lv_istore_n (lv' := [(1, .int _), (0, .ref _)]) hx hb dX5_step_9 rfl hl (by decide) rfl (fun ls hl => ?_)
  refine lv_aload_n hx hb dX5_step_10 rfl (lv_at hl 1 rfl) ?_
  refine va_get (ci := 5) (v := .int (f_1 8)) (C := RX5) (T := TX5) (N := 24) hx hb hts hi5 hown hK hP 0 rfl rfl 22 (by decide) (hts (.fieldLink RX5 175 "InvaderBoardModel" "states" "I") (List.mem_cons_of_mem _ (List.mem_append_left _ (List.mem_append_left _ (List.mem_of_getElem? (i := 1) rfl))))) (fun _ h9 => h9) rfl dX5_step_11 ?_
  refine lv_istore_n (lv' := [(2, .int _), (1, .int _), (0, .ref _)]) hx hb dX5_step_14 rfl hl (by decide) rfl (fun ls hl => ?_)
  refine lv_aload_n hx hb dX5_step_15 rfl (lv_at hl 2 rfl) ?_
  refine lv_dup hx hb dX5_step_16 rfl ?_
  refine va_get (ci := 5) (v := .int (f_1 8)) (C := RX5) (T := TX5) (N := 24) hx hb hts hi5 hown hK hP 0 rfl rfl 22 (by decide) (hts (.fieldLink RX5 175 "InvaderBoardModel" "states" "I") (List.mem_cons_of_mem _ (List.mem_append_left _ (List.mem_append_left _ (List.mem_of_getElem? (i := 1) rfl))))) (fun _ h9 => h9) rfl dX5_step_17 ?_
  refine lv_iload_n hx hb dX5_step_20 rfl (lv_at hl 1 rfl) ?_
  refine lv_iadd hx hb dX5_step_21 ?_
  refine pu_R_f8 (v := (f_1 8) + r_1) hx hb hts hi5 hown hK hP hD hS (hts (.fieldLink RX5 175 "InvaderBoardModel" "states" "I") (List.mem_cons_of_mem _ (List.mem_append_left _ (List.mem_append_left _ (List.mem_of_getElem? (i := 1) rfl))))) dX5_step_22 (fun H locs hP hD hS => ?_)
  refine lv_iload_n hx hb dX5_step_25 rfl (lv_at hl 0 rfl) ?_
  refine lv_sipush (v := 16667) hx hb dX5_step_26 (by decide) ?_
  refine lv_icmp_ge (tgt := 47) hx hb dX5_step_29 (by decide) (fun c_2 => ?_) (fun c_2 => ?_)
  · refine lv_aload_n hx hb dX5_step_47 rfl (lv_at hl 2 rfl) ?_
    refine va_get (ci := 5) (v := .int ((f_1 8) + r_1)) (C := RX5) (T := TX5) (N := 24) hx hb hts hi5 hown hK hP 0 rfl rfl 22 (by decide) (hts (.fieldLink RX5 175 "InvaderBoardModel" "states" "I") (List.mem_cons_of_mem _ (List.mem_append_left _ (List.mem_append_left _ (List.mem_of_getElem? (i := 1) rfl))))) (fun _ h9 => h9) rfl dX5_step_48 ?_
    refine lv_ldc (v := 33333) hx hb hown (hts (.constant RX5 178 33333) (List.mem_cons_of_mem _ (List.mem_append_left _ (List.mem_append_left _ (List.mem_of_getElem? (i := 3) rfl))))) dX5_step_51 ?_
    refine lv_icmp_lt (tgt := 105) hx hb dX5_step_53 (by decide) (fun c_3 => ?_) (fun c_3 => ?_)
    · refine lv_iload_n hx hb dX5_step_105 rfl (lv_at hl 1 rfl) ?_
      have hF : rStep f a = (r_1, upd f_1 8 ((f_1 8) + r_1), a_1) := by
        unfold rStep
        rewrite [hB_1]
        dsimp only
        refine (if_pos c_2).trans ?_
        refine (if_pos c_3).trans ?_
        rfl
      rw [hF]
      exact KC.reti hx hb hr hlocks hK hP hD hS dX5_step_106 rfl
    · refine lv_aload_n hx hb dX5_step_56 rfl (lv_at hl 2 rfl) ?_
      refine lv_dup hx hb dX5_step_57 rfl ?_
      refine va_get (ci := 5) (v := .int ((f_1 8) + r_1)) (C := RX5) (T := TX5) (N := 24) hx hb hts hi5 hown hK hP 0 rfl rfl 22 (by decide) (hts (.fieldLink RX5 175 "InvaderBoardModel" "states" "I") (List.mem_cons_of_mem _ (List.mem_append_left _ (List.mem_append_left _ (List.mem_of_getElem? (i := 1) rfl))))) (fun _ h9 => h9) rfl dX5_step_58 ?_
      refine lv_ldc (v := 33333) hx hb hown (hts (.constant RX5 178 33333) (List.mem_cons_of_mem _ (List.mem_append_left _ (List.mem_append_left _ (List.mem_of_getElem? (i := 3) rfl))))) dX5_step_61 ?_
      refine lv_isub hx hb dX5_step_63 ?_
      refine pu_R_f8 (v := ((f_1 8) + r_1) - (33333 : Int32)) hx hb hts hi5 hown hK hP hD hS (hts (.fieldLink RX5 175 "InvaderBoardModel" "states" "I") (List.mem_cons_of_mem _ (List.mem_append_left _ (List.mem_append_left _ (List.mem_of_getElem? (i := 1) rfl))))) dX5_step_64 (fun H locs hP hD hS => ?_)
      refine lv_aload_n hx hb dX5_step_67 rfl (lv_at hl 2 rfl) ?_
      refine lv_dup hx hb dX5_step_68 rfl ?_
      refine va_get (ci := 5) (v := .int (f_1 9)) (C := RX5) (T := TX5) (N := 24) hx hb hts hi5 hown hK hP 0 rfl rfl 23 (by decide) (hts (.fieldLink RX5 179 "InvaderBoardModel" "frames" "I") (List.mem_cons_of_mem _ (List.mem_append_left _ (List.mem_append_left _ (List.mem_of_getElem? (i := 4) rfl))))) (fun _ h9 => h9) rfl dX5_step_69 ?_
      refine lv_iconst (v := 1) hx hb dX5_step_72 (by decide) ?_
      refine lv_iadd hx hb dX5_step_73 ?_
      refine pu_R_f9 (v := (f_1 9) + (1 : Int32)) hx hb hts hi5 hown hK hP hD hS (hts (.fieldLink RX5 179 "InvaderBoardModel" "frames" "I") (List.mem_cons_of_mem _ (List.mem_append_left _ (List.mem_append_left _ (List.mem_of_getElem? (i := 4) rfl))))) dX5_step_74 (fun H locs hP hD hS => ?_)
      refine lv_aload_n hx hb dX5_step_77 rfl (lv_at hl 2 rfl) ?_
      refine lv_dup hx hb dX5_step_78 rfl ?_
      refine va_get (ci := 5) (v := .int (f_1 7)) (C := RX5) (T := TX5) (N := 24) hx hb hts hi5 hown hK hP 0 rfl rfl 21 (by decide) (hts (.fieldLink RX5 163 "InvaderBoardModel" "hunger" "I") (List.mem_cons_of_mem _ (List.mem_append_left _ (List.mem_append_left _ (List.mem_of_getElem? (i := 5) rfl))))) (fun _ h9 => h9) rfl dX5_step_79 ?_
      refine lv_iconst (v := 1) hx hb dX5_step_82 (by decide) ?_
      refine lv_iadd hx hb dX5_step_83 ?_
      refine pu_R_f7 (v := (f_1 7) + (1 : Int32)) hx hb hts hi5 hown hK hP hD hS (hts (.fieldLink RX5 163 "InvaderBoardModel" "hunger" "I") (List.mem_cons_of_mem _ (List.mem_append_left _ (List.mem_append_left _ (List.mem_of_getElem? (i := 5) rfl))))) dX5_step_84 (fun H locs hP hD hS => ?_)
      refine lv_aload_n hx hb dX5_step_87 rfl (lv_at hl 2 rfl) ?_
      refine lv_iconst (v := 2) hx hb dX5_step_88 (by decide) ?_
      refine pu_R_f10 (v := (2 : Int32)) hx hb hts hi5 hown hK hP hD hS (hts (.fieldLink RX5 166 "InvaderBoardModel" "request" "I") (List.mem_cons_of_mem _ (List.mem_append_left _ (List.mem_append_left _ (List.mem_of_getElem? (i := 2) rfl))))) dX5_step_89 (fun H locs hP hD hS => ?_)
      refine lv_aload_n hx hb dX5_step_92 rfl (lv_at hl 2 rfl) ?_
      refine va_get (ci := 5) (v := .int ((f_1 7) + (1 : Int32))) (C := RX5) (T := TX5) (N := 24) hx hb hts hi5 hown hK hP 0 rfl rfl 21 (by decide) (hts (.fieldLink RX5 163 "InvaderBoardModel" "hunger" "I") (List.mem_cons_of_mem _ (List.mem_append_left _ (List.mem_append_left _ (List.mem_of_getElem? (i := 5) rfl))))) (fun _ h9 => h9) rfl dX5_step_93 ?_
      refine lv_bipush (v := 16) hx hb dX5_step_96 (by decide) ?_
      refine lv_icmp_ne (tgt := 105) hx hb dX5_step_98 (by decide) (fun c_4 => ?_) (fun c_4 => ?_)
      · refine lv_iload_n hx hb dX5_step_105 rfl (lv_at hl 1 rfl) ?_
        have hF : rStep f a = (r_1, upd (upd (upd (upd (upd f_1 8 ((f_1 8) + r_1)) 8 (((f_1 8) + r_1) - (33333 : Int32))) 9 ((f_1 9) + (1 : Int32))) 7 ((f_1 7) + (1 : Int32))) 10 (2 : Int32), a_1) := by
          unfold rStep
          rewrite [hB_1]
          dsimp only
          refine (if_pos c_2).trans ?_
          refine (if_neg c_3).trans ?_
          refine (if_neg c_4).trans ?_
          rfl
        rw [hF]
        exact KC.reti hx hb hr hlocks hK hP hD hS dX5_step_106 rfl
      · refine lv_aload_n hx hb dX5_step_101 rfl (lv_at hl 2 rfl) ?_
        obtain ⟨f_5, a_5, hB_5⟩ := k_ex2 (rClear (upd (upd (upd (upd (upd f_1 8 ((f_1 8) + r_1)) 8 (((f_1 8) + r_1) - (33333 : Int32))) 9 ((f_1 9) + (1 : Int32))) 7 ((f_1 7) + (1 : Int32))) 10 (2 : Int32)) a_1)
        have kc_5 := kX5_clear l D cI o (upd (upd (upd (upd (upd f_1 8 ((f_1 8) + r_1)) 8 (((f_1 8) + r_1) - (33333 : Int32))) 9 ((f_1 9) + (1 : Int32))) 7 ((f_1 7) + (1 : Int32))) 10 (2 : Int32)) a_1
        rw [hB_5] at kc_5; dsimp only at kc_5
        refine KC.callv (ci := 5) (rest := []) (wt := wR cI o f_5 a_5) (kc_5) (cwV 0 hts gX5_step_X5_clear rfl rfl rfl (by decide +kernel) ⟨Nat.le_of_ble_eq_true rfl, Nat.le_of_ble_eq_true rfl⟩) ⟨hx, hb, hml, hown, hts⟩ hK hP hD hS hA rfl rfl rfl [0, 1, 2, 3, 4, 5, 6] [] [0, 1, 2, 3, 4, 5, 6] (by decide) rfl (wr := []) rfl (by decide) (by decide) (by decide) rfl rfl hl.1 rfl (Nat.le_of_ble_eq_true rfl) dX5_step_102 ⟨Nat.zero_le _, Nat.zero_le _⟩ (fun H locs hP hD hS => ?_)
        refine lv_iload_n hx hb dX5_step_105 rfl (lv_at hl 1 rfl) ?_
        have hF : rStep f a = (r_1, f_5, a_5) := by
          unfold rStep
          rewrite [hB_1]
          dsimp only
          refine (if_pos c_2).trans ?_
          refine (if_neg c_3).trans ?_
          refine (if_pos c_4).trans ?_
          rewrite [hB_5]
          rfl
        rw [hF]
        exact KC.reti hx hb hr hlocks hK hP hD hS dX5_step_106 rfl
  · refine lv_aload_n hx hb dX5_step_32 rfl (lv_at hl 2 rfl) ?_
    refine va_get (ci := 5) (v := .int ((f_1 8) + r_1)) (C := RX5) (T := TX5) (N := 24) hx hb hts hi5 hown hK hP 0 rfl rfl 22 (by decide) (hts (.fieldLink RX5 175 "InvaderBoardModel" "states" "I") (List.mem_cons_of_mem _ (List.mem_append_left _ (List.mem_append_left _ (List.mem_of_getElem? (i := 1) rfl))))) (fun _ h9 => h9) rfl dX5_step_33 ?_
    refine lv_sipush (v := 16667) hx hb dX5_step_36 (by decide) ?_
    refine lv_icmp_lt (tgt := 47) hx hb dX5_step_39 (by decide) (fun c_6 => ?_) (fun c_6 => ?_)
    · refine lv_aload_n hx hb dX5_step_47 rfl (lv_at hl 2 rfl) ?_
      refine va_get (ci := 5) (v := .int ((f_1 8) + r_1)) (C := RX5) (T := TX5) (N := 24) hx hb hts hi5 hown hK hP 0 rfl rfl 22 (by decide) (hts (.fieldLink RX5 175 "InvaderBoardModel" "states" "I") (List.mem_cons_of_mem _ (List.mem_append_left _ (List.mem_append_left _ (List.mem_of_getElem? (i := 1) rfl))))) (fun _ h9 => h9) rfl dX5_step_48 ?_
      refine lv_ldc (v := 33333) hx hb hown (hts (.constant RX5 178 33333) (List.mem_cons_of_mem _ (List.mem_append_left _ (List.mem_append_left _ (List.mem_of_getElem? (i := 3) rfl))))) dX5_step_51 ?_
      refine lv_icmp_lt (tgt := 105) hx hb dX5_step_53 (by decide) (fun c_7 => ?_) (fun c_7 => ?_)
      · refine lv_iload_n hx hb dX5_step_105 rfl (lv_at hl 1 rfl) ?_
        have hF : rStep f a = (r_1, upd f_1 8 ((f_1 8) + r_1), a_1) := by
          unfold rStep
          rewrite [hB_1]
          dsimp only
          refine (if_neg c_2).trans ?_
          refine (if_pos c_6).trans ?_
          refine (if_pos c_7).trans ?_
          rfl
        rw [hF]
        exact KC.reti hx hb hr hlocks hK hP hD hS dX5_step_106 rfl
      · refine lv_aload_n hx hb dX5_step_56 rfl (lv_at hl 2 rfl) ?_
        refine lv_dup hx hb dX5_step_57 rfl ?_
        refine va_get (ci := 5) (v := .int ((f_1 8) + r_1)) (C := RX5) (T := TX5) (N := 24) hx hb hts hi5 hown hK hP 0 rfl rfl 22 (by decide) (hts (.fieldLink RX5 175 "InvaderBoardModel" "states" "I") (List.mem_cons_of_mem _ (List.mem_append_left _ (List.mem_append_left _ (List.mem_of_getElem? (i := 1) rfl))))) (fun _ h9 => h9) rfl dX5_step_58 ?_
        refine lv_ldc (v := 33333) hx hb hown (hts (.constant RX5 178 33333) (List.mem_cons_of_mem _ (List.mem_append_left _ (List.mem_append_left _ (List.mem_of_getElem? (i := 3) rfl))))) dX5_step_61 ?_
        refine lv_isub hx hb dX5_step_63 ?_
        refine pu_R_f8 (v := ((f_1 8) + r_1) - (33333 : Int32)) hx hb hts hi5 hown hK hP hD hS (hts (.fieldLink RX5 175 "InvaderBoardModel" "states" "I") (List.mem_cons_of_mem _ (List.mem_append_left _ (List.mem_append_left _ (List.mem_of_getElem? (i := 1) rfl))))) dX5_step_64 (fun H locs hP hD hS => ?_)
        refine lv_aload_n hx hb dX5_step_67 rfl (lv_at hl 2 rfl) ?_
        refine lv_dup hx hb dX5_step_68 rfl ?_
        refine va_get (ci := 5) (v := .int (f_1 9)) (C := RX5) (T := TX5) (N := 24) hx hb hts hi5 hown hK hP 0 rfl rfl 23 (by decide) (hts (.fieldLink RX5 179 "InvaderBoardModel" "frames" "I") (List.mem_cons_of_mem _ (List.mem_append_left _ (List.mem_append_left _ (List.mem_of_getElem? (i := 4) rfl))))) (fun _ h9 => h9) rfl dX5_step_69 ?_
        refine lv_iconst (v := 1) hx hb dX5_step_72 (by decide) ?_
        refine lv_iadd hx hb dX5_step_73 ?_
        refine pu_R_f9 (v := (f_1 9) + (1 : Int32)) hx hb hts hi5 hown hK hP hD hS (hts (.fieldLink RX5 179 "InvaderBoardModel" "frames" "I") (List.mem_cons_of_mem _ (List.mem_append_left _ (List.mem_append_left _ (List.mem_of_getElem? (i := 4) rfl))))) dX5_step_74 (fun H locs hP hD hS => ?_)
        refine lv_aload_n hx hb dX5_step_77 rfl (lv_at hl 2 rfl) ?_
        refine lv_dup hx hb dX5_step_78 rfl ?_
        refine va_get (ci := 5) (v := .int (f_1 7)) (C := RX5) (T := TX5) (N := 24) hx hb hts hi5 hown hK hP 0 rfl rfl 21 (by decide) (hts (.fieldLink RX5 163 "InvaderBoardModel" "hunger" "I") (List.mem_cons_of_mem _ (List.mem_append_left _ (List.mem_append_left _ (List.mem_of_getElem? (i := 5) rfl))))) (fun _ h9 => h9) rfl dX5_step_79 ?_
        refine lv_iconst (v := 1) hx hb dX5_step_82 (by decide) ?_
        refine lv_iadd hx hb dX5_step_83 ?_
        refine pu_R_f7 (v := (f_1 7) + (1 : Int32)) hx hb hts hi5 hown hK hP hD hS (hts (.fieldLink RX5 163 "InvaderBoardModel" "hunger" "I") (List.mem_cons_of_mem _ (List.mem_append_left _ (List.mem_append_left _ (List.mem_of_getElem? (i := 5) rfl))))) dX5_step_84 (fun H locs hP hD hS => ?_)
        refine lv_aload_n hx hb dX5_step_87 rfl (lv_at hl 2 rfl) ?_
        refine lv_iconst (v := 2) hx hb dX5_step_88 (by decide) ?_
        refine pu_R_f10 (v := (2 : Int32)) hx hb hts hi5 hown hK hP hD hS (hts (.fieldLink RX5 166 "InvaderBoardModel" "request" "I") (List.mem_cons_of_mem _ (List.mem_append_left _ (List.mem_append_left _ (List.mem_of_getElem? (i := 2) rfl))))) dX5_step_89 (fun H locs hP hD hS => ?_)
        refine lv_aload_n hx hb dX5_step_92 rfl (lv_at hl 2 rfl) ?_
        refine va_get (ci := 5) (v := .int ((f_1 7) + (1 : Int32))) (C := RX5) (T := TX5) (N := 24) hx hb hts hi5 hown hK hP 0 rfl rfl 21 (by decide) (hts (.fieldLink RX5 163 "InvaderBoardModel" "hunger" "I") (List.mem_cons_of_mem _ (List.mem_append_left _ (List.mem_append_left _ (List.mem_of_getElem? (i := 5) rfl))))) (fun _ h9 => h9) rfl dX5_step_93 ?_
        refine lv_bipush (v := 16) hx hb dX5_step_96 (by decide) ?_
        refine lv_icmp_ne (tgt := 105) hx hb dX5_step_98 (by decide) (fun c_8 => ?_) (fun c_8 => ?_)
        · refine lv_iload_n hx hb dX5_step_105 rfl (lv_at hl 1 rfl) ?_
          have hF : rStep f a = (r_1, upd (upd (upd (upd (upd f_1 8 ((f_1 8) + r_1)) 8 (((f_1 8) + r_1) - (33333 : Int32))) 9 ((f_1 9) + (1 : Int32))) 7 ((f_1 7) + (1 : Int32))) 10 (2 : Int32), a_1) := by
            unfold rStep
            rewrite [hB_1]
            dsimp only
            refine (if_neg c_2).trans ?_
            refine (if_pos c_6).trans ?_
            refine (if_neg c_7).trans ?_
            refine (if_neg c_8).trans ?_
            rfl
          rw [hF]
          exact KC.reti hx hb hr hlocks hK hP hD hS dX5_step_106 rfl
        · refine lv_aload_n hx hb dX5_step_101 rfl (lv_at hl 2 rfl) ?_
          obtain ⟨f_9, a_9, hB_9⟩ := k_ex2 (rClear (upd (upd (upd (upd (upd f_1 8 ((f_1 8) + r_1)) 8 (((f_1 8) + r_1) - (33333 : Int32))) 9 ((f_1 9) + (1 : Int32))) 7 ((f_1 7) + (1 : Int32))) 10 (2 : Int32)) a_1)
          have kc_9 := kX5_clear l D cI o (upd (upd (upd (upd (upd f_1 8 ((f_1 8) + r_1)) 8 (((f_1 8) + r_1) - (33333 : Int32))) 9 ((f_1 9) + (1 : Int32))) 7 ((f_1 7) + (1 : Int32))) 10 (2 : Int32)) a_1
          rw [hB_9] at kc_9; dsimp only at kc_9
          refine KC.callv (ci := 5) (rest := []) (wt := wR cI o f_9 a_9) (kc_9) (cwV 0 hts gX5_step_X5_clear rfl rfl rfl (by decide +kernel) ⟨Nat.le_of_ble_eq_true rfl, Nat.le_of_ble_eq_true rfl⟩) ⟨hx, hb, hml, hown, hts⟩ hK hP hD hS hA rfl rfl rfl [0, 1, 2, 3, 4, 5, 6] [] [0, 1, 2, 3, 4, 5, 6] (by decide) rfl (wr := []) rfl (by decide) (by decide) (by decide) rfl rfl hl.1 rfl (Nat.le_of_ble_eq_true rfl) dX5_step_102 ⟨Nat.zero_le _, Nat.zero_le _⟩ (fun H locs hP hD hS => ?_)
          refine lv_iload_n hx hb dX5_step_105 rfl (lv_at hl 1 rfl) ?_
          have hF : rStep f a = (r_1, f_9, a_9) := by
            unfold rStep
            rewrite [hB_1]
            dsimp only
            refine (if_neg c_2).trans ?_
            refine (if_pos c_6).trans ?_
            refine (if_neg c_7).trans ?_
            refine (if_pos c_8).trans ?_
            rewrite [hB_9]
            rfl
          rw [hF]
          exact KC.reti hx hb hr hlocks hK hP hD hS dX5_step_106 rfl
    · refine lv_aload_n hx hb dX5_step_42 rfl (lv_at hl 2 rfl) ?_
      refine lv_iconst (v := 1) hx hb dX5_step_43 (by decide) ?_
      refine pu_R_f10 (v := (1 : Int32)) hx hb hts hi5 hown hK hP hD hS (hts (.fieldLink RX5 166 "InvaderBoardModel" "request" "I") (List.mem_cons_of_mem _ (List.mem_append_left _ (List.mem_append_left _ (List.mem_of_getElem? (i := 2) rfl))))) dX5_step_44 (fun H locs hP hD hS => ?_)
      refine lv_aload_n hx hb dX5_step_47 rfl (lv_at hl 2 rfl) ?_
      refine va_get (ci := 5) (v := .int ((f_1 8) + r_1)) (C := RX5) (T := TX5) (N := 24) hx hb hts hi5 hown hK hP 0 rfl rfl 22 (by decide) (hts (.fieldLink RX5 175 "InvaderBoardModel" "states" "I") (List.mem_cons_of_mem _ (List.mem_append_left _ (List.mem_append_left _ (List.mem_of_getElem? (i := 1) rfl))))) (fun _ h9 => h9) rfl dX5_step_48 ?_
      refine lv_ldc (v := 33333) hx hb hown (hts (.constant RX5 178 33333) (List.mem_cons_of_mem _ (List.mem_append_left _ (List.mem_append_left _ (List.mem_of_getElem? (i := 3) rfl))))) dX5_step_51 ?_
      refine lv_icmp_lt (tgt := 105) hx hb dX5_step_53 (by decide) (fun c_10 => ?_) (fun c_10 => ?_)
      · refine lv_iload_n hx hb dX5_step_105 rfl (lv_at hl 1 rfl) ?_
        have hF : rStep f a = (r_1, upd (upd f_1 8 ((f_1 8) + r_1)) 10 (1 : Int32), a_1) := by
          unfold rStep
          rewrite [hB_1]
          dsimp only
          refine (if_neg c_2).trans ?_
          refine (if_neg c_6).trans ?_
          refine (if_pos c_10).trans ?_
          rfl
        rw [hF]
        exact KC.reti hx hb hr hlocks hK hP hD hS dX5_step_106 rfl
      · refine lv_aload_n hx hb dX5_step_56 rfl (lv_at hl 2 rfl) ?_
        refine lv_dup hx hb dX5_step_57 rfl ?_
        refine va_get (ci := 5) (v := .int ((f_1 8) + r_1)) (C := RX5) (T := TX5) (N := 24) hx hb hts hi5 hown hK hP 0 rfl rfl 22 (by decide) (hts (.fieldLink RX5 175 "InvaderBoardModel" "states" "I") (List.mem_cons_of_mem _ (List.mem_append_left _ (List.mem_append_left _ (List.mem_of_getElem? (i := 1) rfl))))) (fun _ h9 => h9) rfl dX5_step_58 ?_
        refine lv_ldc (v := 33333) hx hb hown (hts (.constant RX5 178 33333) (List.mem_cons_of_mem _ (List.mem_append_left _ (List.mem_append_left _ (List.mem_of_getElem? (i := 3) rfl))))) dX5_step_61 ?_
        refine lv_isub hx hb dX5_step_63 ?_
        refine pu_R_f8 (v := ((f_1 8) + r_1) - (33333 : Int32)) hx hb hts hi5 hown hK hP hD hS (hts (.fieldLink RX5 175 "InvaderBoardModel" "states" "I") (List.mem_cons_of_mem _ (List.mem_append_left _ (List.mem_append_left _ (List.mem_of_getElem? (i := 1) rfl))))) dX5_step_64 (fun H locs hP hD hS => ?_)
        refine lv_aload_n hx hb dX5_step_67 rfl (lv_at hl 2 rfl) ?_
        refine lv_dup hx hb dX5_step_68 rfl ?_
        refine va_get (ci := 5) (v := .int (f_1 9)) (C := RX5) (T := TX5) (N := 24) hx hb hts hi5 hown hK hP 0 rfl rfl 23 (by decide) (hts (.fieldLink RX5 179 "InvaderBoardModel" "frames" "I") (List.mem_cons_of_mem _ (List.mem_append_left _ (List.mem_append_left _ (List.mem_of_getElem? (i := 4) rfl))))) (fun _ h9 => h9) rfl dX5_step_69 ?_
        refine lv_iconst (v := 1) hx hb dX5_step_72 (by decide) ?_
        refine lv_iadd hx hb dX5_step_73 ?_
        refine pu_R_f9 (v := (f_1 9) + (1 : Int32)) hx hb hts hi5 hown hK hP hD hS (hts (.fieldLink RX5 179 "InvaderBoardModel" "frames" "I") (List.mem_cons_of_mem _ (List.mem_append_left _ (List.mem_append_left _ (List.mem_of_getElem? (i := 4) rfl))))) dX5_step_74 (fun H locs hP hD hS => ?_)
        refine lv_aload_n hx hb dX5_step_77 rfl (lv_at hl 2 rfl) ?_
        refine lv_dup hx hb dX5_step_78 rfl ?_
        refine va_get (ci := 5) (v := .int (f_1 7)) (C := RX5) (T := TX5) (N := 24) hx hb hts hi5 hown hK hP 0 rfl rfl 21 (by decide) (hts (.fieldLink RX5 163 "InvaderBoardModel" "hunger" "I") (List.mem_cons_of_mem _ (List.mem_append_left _ (List.mem_append_left _ (List.mem_of_getElem? (i := 5) rfl))))) (fun _ h9 => h9) rfl dX5_step_79 ?_
        refine lv_iconst (v := 1) hx hb dX5_step_82 (by decide) ?_
        refine lv_iadd hx hb dX5_step_83 ?_
        refine pu_R_f7 (v := (f_1 7) + (1 : Int32)) hx hb hts hi5 hown hK hP hD hS (hts (.fieldLink RX5 163 "InvaderBoardModel" "hunger" "I") (List.mem_cons_of_mem _ (List.mem_append_left _ (List.mem_append_left _ (List.mem_of_getElem? (i := 5) rfl))))) dX5_step_84 (fun H locs hP hD hS => ?_)
        refine lv_aload_n hx hb dX5_step_87 rfl (lv_at hl 2 rfl) ?_
        refine lv_iconst (v := 2) hx hb dX5_step_88 (by decide) ?_
        refine pu_R_f10 (v := (2 : Int32)) hx hb hts hi5 hown hK hP hD hS (hts (.fieldLink RX5 166 "InvaderBoardModel" "request" "I") (List.mem_cons_of_mem _ (List.mem_append_left _ (List.mem_append_left _ (List.mem_of_getElem? (i := 2) rfl))))) dX5_step_89 (fun H locs hP hD hS => ?_)
        refine lv_aload_n hx hb dX5_step_92 rfl (lv_at hl 2 rfl) ?_
        refine va_get (ci := 5) (v := .int ((f_1 7) + (1 : Int32))) (C := RX5) (T := TX5) (N := 24) hx hb hts hi5 hown hK hP 0 rfl rfl 21 (by decide) (hts (.fieldLink RX5 163 "InvaderBoardModel" "hunger" "I") (List.mem_cons_of_mem _ (List.mem_append_left _ (List.mem_append_left _ (List.mem_of_getElem? (i := 5) rfl))))) (fun _ h9 => h9) rfl dX5_step_93 ?_
        refine lv_bipush (v := 16) hx hb dX5_step_96 (by decide) ?_
        refine lv_icmp_ne (tgt := 105) hx hb dX5_step_98 (by decide) (fun c_11 => ?_) (fun c_11 => ?_)
        · refine lv_iload_n hx hb dX5_step_105 rfl (lv_at hl 1 rfl) ?_
          have hF : rStep f a = (r_1, upd (upd (upd (upd (upd (upd f_1 8 ((f_1 8) + r_1)) 10 (1 : Int32)) 8 (((f_1 8) + r_1) - (33333 : Int32))) 9 ((f_1 9) + (1 : Int32))) 7 ((f_1 7) + (1 : Int32))) 10 (2 : Int32), a_1) := by
            unfold rStep
            rewrite [hB_1]
            dsimp only
            refine (if_neg c_2).trans ?_
            refine (if_neg c_6).trans ?_
            refine (if_neg c_10).trans ?_
            refine (if_neg c_11).trans ?_
            rfl
          rw [hF]
          exact KC.reti hx hb hr hlocks hK hP hD hS dX5_step_106 rfl
        · refine lv_aload_n hx hb dX5_step_101 rfl (lv_at hl 2 rfl) ?_
          obtain ⟨f_12, a_12, hB_12⟩ := k_ex2 (rClear (upd (upd (upd (upd (upd (upd f_1 8 ((f_1 8) + r_1)) 10 (1 : Int32)) 8 (((f_1 8) + r_1) - (33333 : Int32))) 9 ((f_1 9) + (1 : Int32))) 7 ((f_1 7) + (1 : Int32))) 10 (2 : Int32)) a_1)
          have kc_12 := kX5_clear l D cI o (upd (upd (upd (upd (upd (upd f_1 8 ((f_1 8) + r_1)) 10 (1 : Int32)) 8 (((f_1 8) + r_1) - (33333 : Int32))) 9 ((f_1 9) + (1 : Int32))) 7 ((f_1 7) + (1 : Int32))) 10 (2 : Int32)) a_1
          rw [hB_12] at kc_12; dsimp only at kc_12
          refine KC.callv (ci := 5) (rest := []) (wt := wR cI o f_12 a_12) (kc_12) (cwV 0 hts gX5_step_X5_clear rfl rfl rfl (by decide +kernel) ⟨Nat.le_of_ble_eq_true rfl, Nat.le_of_ble_eq_true rfl⟩) ⟨hx, hb, hml, hown, hts⟩ hK hP hD hS hA rfl rfl rfl [0, 1, 2, 3, 4, 5, 6] [] [0, 1, 2, 3, 4, 5, 6] (by decide) rfl (wr := []) rfl (by decide) (by decide) (by decide) rfl rfl hl.1 rfl (Nat.le_of_ble_eq_true rfl) dX5_step_102 ⟨Nat.zero_le _, Nat.zero_le _⟩ (fun H locs hP hD hS => ?_)
          refine lv_iload_n hx hb dX5_step_105 rfl (lv_at hl 1 rfl) ?_
          have hF : rStep f a = (r_1, f_12, a_12) := by
            unfold rStep
            rewrite [hB_1]
            dsimp only
            refine (if_neg c_2).trans ?_
            refine (if_neg c_6).trans ?_
            refine (if_neg c_10).trans ?_
            refine (if_pos c_11).trans ?_
            rewrite [hB_12]
            rfl
          rw [hF]
          exact KC.reti hx hb hr hlocks hK hP hD hS dX5_step_106 rfl
def rLoadL (p1 p2 p3 : Int32) : Nat → Nat → (Nat → Int32) → Nat → Int32
  | 0, _, r => r
  | n + 1, k, r => rLoadL p1 p2 p3 n (k + 1) (upd r (p1 + (nI k)).toNatClampNeg ((p2 >>> (((8 : Int32) * ((p3 - (1 : Int32)) - (nI k))) &&& 31)) &&& (255 : Int32)))
set_option maxHeartbeats 4000000 in
set_option maxRecDepth 100000 in
theorem lpX5_load {l : Launch} {D : va_G} {cI : ClassId} {o : Nat → Nat} {f : Nat → Int32} {a : Nat → Nat → Int32} {p1 p2 p3 : Int32} {N J : Nat} {p : Program} {e : Env} {s : State} {m : MethodId} {args : Array Value} {below : List Frame} {meth : Method} {c : Code} {A : Nat → Prop} (hx : p.tables.exec = Jvm.exec) (hb : c.code = cX5_load) (hr : meth.sig.returnType = (some .int)) (hts : ∀ w ∈ wsX5_load, w.before args s = true) (hown : s.vm.findClass RX5 = some m.cls) (hlocks : meth.locks = false) (hml : c.maxLocals = 5) (hK : va_K D vwCl [(cI, .int)] s) (hA : ∀ q : Nat, s.heap.size ≤ q → A q) (hN : p3 = nI N) (hN4 : N ≤ 4) (hJ : p1 = nI J) (hJ2 : J + N ≤ 2048) :
    ∀ (n k : Nat), k + n = N → ∀ (r : Nat → Int32), ∀ (H : Heap) (locs : List Loc), va_P D vwCl (wR cI o f (ua a 0 r)) H → va_D A (wR cI o f (ua a 0 r)) → va_S A s.heap H locs → ∀ ls : Array Slot, lv_has ls 5 [(4, .int (nI k)), (0, .ref (o 20)), (1, .int p1), (2, .int p2), (3, .int p3)] → W p l e (rmD 0) s m args below meth c H locs 0 0 (MQ below (kq_ D cI (some (.int (p1 + p3))) (wR cI o f (ua a 0 (rLoadL p1 p2 p3 n k r))) A) args s 0 0 A) (F0 m 44 ls []) := by
  have hi5 : ∀ w ∈ u_ws RX5 TX5 24, w ∈ wsX5_load := fun w h => List.mem_cons_of_mem _ (List.mem_append_right _ h)
  intro n
  induction n with
  | zero =>
    intro k hk r H locs hP hD hS ls hl
    obtain rfl : k = N := by omega
    refine lv_iload hx hb dX5_load_44 (lv_at hl 0 rfl) ?_
    refine lv_iload_n hx hb dX5_load_46 rfl (lv_at hl 4 rfl) ?_
    refine lv_icmp_ge (tgt := 80) hx hb dX5_load_47 (by decide) (fun c_1 => ?_) (fun c_1 => ?_)
    · refine lv_iload_n hx hb dX5_load_80 rfl (lv_at hl 2 rfl) ?_
      refine lv_iload_n hx hb dX5_load_81 rfl (lv_at hl 4 rfl) ?_
      refine lv_iadd hx hb dX5_load_82 ?_
      exact KC.reti hx hb hr hlocks hK hP hD hS dX5_load_83 rfl
    · exact absurd (by rw [hN]; exact nI_le (Nat.le_refl _) (by omega)) c_1
  | succ n ih =>
    intro k hk r H locs hP hD hS ls hl
    refine lv_iload hx hb dX5_load_44 (lv_at hl 0 rfl) ?_
    refine lv_iload_n hx hb dX5_load_46 rfl (lv_at hl 4 rfl) ?_
    refine lv_icmp_ge (tgt := 80) hx hb dX5_load_47 (by decide) (fun c_2 => ?_) (fun c_2 => ?_)
    · exact absurd c_2 (by rw [hN]; exact nI_ge (by omega) (by omega))
    · refine lv_aload_n hx hb dX5_load_50 rfl (lv_at hl 1 rfl) ?_
      refine va_get (ci := 5) (v := .ref (o 21)) (C := RX5) (T := TX5) (N := 24) hx hb hts hi5 hown hK hP 0 rfl rfl 1 (by decide) (hts (.fieldLink RX5 7 "InvaderBoardModel" "rom" "[I") (List.mem_cons_of_mem _ (List.mem_append_left _ (List.mem_of_getElem? (i := 1) rfl)))) (fun _ h9 => h9) rfl dX5_load_51 ?_
      refine lv_iload_n hx hb dX5_load_54 rfl (lv_at hl 2 rfl) ?_
      refine lv_iload hx hb dX5_load_55 (lv_at hl 0 rfl) ?_
      refine lv_iadd hx hb dX5_load_57 ?_
      refine lv_iload_n hx hb dX5_load_58 rfl (lv_at hl 3 rfl) ?_
      refine lv_bipush (v := 8) hx hb dX5_load_59 (by decide) ?_
      refine lv_iload_n hx hb dX5_load_61 rfl (lv_at hl 4 rfl) ?_
      refine lv_iconst (v := 1) hx hb dX5_load_62 (by decide) ?_
      refine lv_isub hx hb dX5_load_63 ?_
      refine lv_iload hx hb dX5_load_64 (lv_at hl 0 rfl) ?_
      refine lv_isub hx hb dX5_load_66 ?_
      refine lv_imul hx hb dX5_load_67 ?_
      refine lv_ishr hx hb dX5_load_68 ?_
      refine lv_sipush (v := 255) hx hb dX5_load_69 (by decide) ?_
      refine lv_iand hx hb dX5_load_72 ?_
      refine pu_R_a0 hx hb hK hP hD hS (by rw [hJ, nI_add]; exact vp_in_nI (by omega) (by decide)) dX5_load_73 (fun H locs hP hD hS => ?_)
      have hP : va_P D vwCl (wR cI o f (ua (ua a 0 r) 0 (upd r (p1 + (nI k)).toNatClampNeg ((p2 >>> (((8 : Int32) * ((p3 - (1 : Int32)) - (nI k))) &&& 31)) &&& (255 : Int32))))) H := hP
      have hD : va_D A (wR cI o f (ua (ua a 0 r) 0 (upd r (p1 + (nI k)).toNatClampNeg ((p2 >>> (((8 : Int32) * ((p3 - (1 : Int32)) - (nI k))) &&& 31)) &&& (255 : Int32))))) := hD
      refine lv_iinc (v := (nI k) + (1 : Int32)) (lv' := [(4, .int _), (0, .ref _), (1, .int _), (2, .int _), (3, .int _)]) hx hb dX5_load_74 hl (k := 0) rfl rfl (by decide) rfl (fun ls hl => ?_)
      refine lv_goto (tgt := 44) hx hb dX5_load_77 (by decide) ?_
      rw [nI_1] at hl
      have hP : va_P D vwCl (wR cI o f (ua a 0 (upd r (p1 + (nI k)).toNatClampNeg ((p2 >>> (((8 : Int32) * ((p3 - (1 : Int32)) - (nI k))) &&& 31)) &&& (255 : Int32))))) H := hP
      have hD : va_D A (wR cI o f (ua a 0 (upd r (p1 + (nI k)).toNatClampNeg ((p2 >>> (((8 : Int32) * ((p3 - (1 : Int32)) - (nI k))) &&& 31)) &&& (255 : Int32))))) := hD
      exact ih (k + 1) (by omega) _ H locs hP hD hS ls (lv_sub hl [0, 1, 2, 3, 4] rfl)
theorem ld_Nr {p3 : Int32} (c1 : ¬ p3 < (1 : Int32)) (c2 : ¬ (4 : Int32) < p3) : p3 = nI p3.toNatClampNeg ∧ p3.toNatClampNeg ≤ 4 := by
  have h0 : ¬ p3 < 0 := by
    rw [Int32.lt_iff_toInt_lt] at c1 ⊢
    have : (1 : Int32).toInt = 1 := by decide
    rw [Int32.toInt_zero]; omega
  obtain ⟨j, hj, rfl⟩ := nI_of h0
  rw [nI_clamp hj]
  refine ⟨rfl, ?_⟩
  rcases Nat.lt_or_ge 4 j with q | q
  · exact absurd (show nI 4 < nI j from nI_lt q hj) c2
  · exact q
theorem ld_J {p1 p3 : Int32} {N : Nat} (hN : p3 = nI N) (hN4 : N ≤ 4) (c3 : ¬ p1 < 0) (c4 : p1 ≤ (2048 : Int32) - p3) : p1 = nI p1.toNatClampNeg ∧ p1.toNatClampNeg + N ≤ 2048 := by
  obtain ⟨j, hj, rfl⟩ := nI_of c3
  rw [nI_clamp hj]
  refine ⟨rfl, ?_⟩
  rw [hN, show (2048 : Int32) = nI 2048 from rfl, pk_sub (by omega)] at c4
  have := (nI_leI hj (by omega)).mp c4
  omega
def rLoad (f : Nat → Int32) (a : Nat → Nat → Int32) (p1 : Int32) (p2 : Int32) (p3 : Int32) : Int32 × (Nat → Int32) × (Nat → Nat → Int32) :=
  if p3 < (1 : Int32) then ((0 : Int32), upd f 11 (1 : Int32), a)
  else if (4 : Int32) < p3 then ((0 : Int32), upd f 11 (1 : Int32), a)
    else if p1 < 0 then ((0 : Int32), upd f 11 (1 : Int32), a)
      else if p1 ≤ ((2048 : Int32) - p3) then (p1 + p3, upd f 11 (0 : Int32), ua a 0 (rLoadL p1 p2 p3 p3.toNatClampNeg 0 (a 0)))
        else ((0 : Int32), upd f 11 (1 : Int32), a)
set_option maxHeartbeats 4000000 in
set_option maxRecDepth 100000 in
theorem kX5_load (l : Launch) (D : va_G) (cI : ClassId) (o : Nat → Nat) (f : Nat → Int32) (a : Nat → Nat → Int32) (p1 : Int32) (p2 : Int32) (p3 : Int32) : KC l yX5_load wsX5_load 0 [.ref (o 20), .int p1, .int p2, .int p3] D cI (wR cI o f a) (wR cI o ((rLoad f a p1 p2 p3).2.1) ((rLoad f a p1 p2 p3).2.2)) (some (.int (rLoad f a p1 p2 p3).1)) := by
  refine KC.of (cc := cX5_load) (maxL := 5) (by decide) rfl (Nat.le_of_ble_eq_true rfl) ?_
  intro p e s m below meth c A hx hb hr hts hown hlocks hml hK hP hD hS hA ls hl
  have hl : lv_has ls 5 [(0, .ref (o 20)), (1, .int p1), (2, .int p2), (3, .int p3)] := hl
  have hown : s.vm.findClass RX5 = some m.cls := hown
  have hi5 : ∀ w ∈ u_ws RX5 TX5 24, w ∈ wsX5_load := fun w h => List.mem_cons_of_mem _ (List.mem_append_right _ h)
  refine lv_aload_n hx hb dX5_load_0 rfl (lv_at hl 0 rfl) ?_
  refine lv_iload_n hx hb dX5_load_1 rfl (lv_at hl 3 rfl) ?_
  refine lv_iconst (v := 1) hx hb dX5_load_2 (by decide) ?_
  refine lv_icmp_lt (tgt := 24) hx hb dX5_load_3 (by decide) (fun c_1 => ?_) (fun c_1 => ?_)
  · refine lv_iconst (v := 1) hx hb dX5_load_24 (by decide) ?_
    refine lv_goto (tgt := 29) hx hb dX5_load_25 (by decide) ?_
    refine pu_R_f11 (v := (1 : Int32)) hx hb hts hi5 hown hK hP hD hS (hts (.fieldLink RX5 28 "InvaderBoardModel" "code" "I") (List.mem_cons_of_mem _ (List.mem_append_left _ (List.mem_of_getElem? (i := 0) rfl)))) dX5_load_29 (fun H locs hP hD hS => ?_)
    refine lv_aload_n hx hb dX5_load_32 rfl (lv_at hl 0 rfl) ?_
    refine va_get (ci := 5) (v := .int (1 : Int32)) (C := RX5) (T := TX5) (N := 24) hx hb hts hi5 hown hK hP 0 rfl rfl 0 (by decide) (hts (.fieldLink RX5 28 "InvaderBoardModel" "code" "I") (List.mem_cons_of_mem _ (List.mem_append_left _ (List.mem_of_getElem? (i := 0) rfl)))) (fun _ h9 => h9) rfl dX5_load_33 ?_
    refine lv_if_le (tgt := 41) hx hb dX5_load_36 (by decide) (fun c_2 => ?_) (fun c_2 => ?_)
    · exact absurd c_2 (by decide)
    · refine lv_iconst (v := 0) hx hb dX5_load_39 (by decide) ?_
      have hF : rLoad f a p1 p2 p3 = ((0 : Int32), upd f 11 (1 : Int32), a) := by
        unfold rLoad
        refine (if_pos c_1).trans ?_
        rfl
      rw [hF]
      exact KC.reti hx hb hr hlocks hK hP hD hS dX5_load_40 rfl
  · refine lv_iload_n hx hb dX5_load_6 rfl (lv_at hl 3 rfl) ?_
    refine lv_iconst (v := 4) hx hb dX5_load_7 (by decide) ?_
    refine lv_icmp_gt (tgt := 24) hx hb dX5_load_8 (by decide) (fun c_3 => ?_) (fun c_3 => ?_)
    · refine lv_iconst (v := 1) hx hb dX5_load_24 (by decide) ?_
      refine lv_goto (tgt := 29) hx hb dX5_load_25 (by decide) ?_
      refine pu_R_f11 (v := (1 : Int32)) hx hb hts hi5 hown hK hP hD hS (hts (.fieldLink RX5 28 "InvaderBoardModel" "code" "I") (List.mem_cons_of_mem _ (List.mem_append_left _ (List.mem_of_getElem? (i := 0) rfl)))) dX5_load_29 (fun H locs hP hD hS => ?_)
      refine lv_aload_n hx hb dX5_load_32 rfl (lv_at hl 0 rfl) ?_
      refine va_get (ci := 5) (v := .int (1 : Int32)) (C := RX5) (T := TX5) (N := 24) hx hb hts hi5 hown hK hP 0 rfl rfl 0 (by decide) (hts (.fieldLink RX5 28 "InvaderBoardModel" "code" "I") (List.mem_cons_of_mem _ (List.mem_append_left _ (List.mem_of_getElem? (i := 0) rfl)))) (fun _ h9 => h9) rfl dX5_load_33 ?_
      refine lv_if_le (tgt := 41) hx hb dX5_load_36 (by decide) (fun c_4 => ?_) (fun c_4 => ?_)
      · exact absurd c_4 (by decide)
      · refine lv_iconst (v := 0) hx hb dX5_load_39 (by decide) ?_
        have hF : rLoad f a p1 p2 p3 = ((0 : Int32), upd f 11 (1 : Int32), a) := by
          unfold rLoad
          refine (if_neg c_1).trans ?_
          refine (if_pos c_3).trans ?_
          rfl
        rw [hF]
        exact KC.reti hx hb hr hlocks hK hP hD hS dX5_load_40 rfl
    · refine lv_iload_n hx hb dX5_load_11 rfl (lv_at hl 1 rfl) ?_
      refine lv_if_lt (tgt := 24) hx hb dX5_load_12 (by decide) (fun c_5 => ?_) (fun c_5 => ?_)
      · refine lv_iconst (v := 1) hx hb dX5_load_24 (by decide) ?_
        refine lv_goto (tgt := 29) hx hb dX5_load_25 (by decide) ?_
        refine pu_R_f11 (v := (1 : Int32)) hx hb hts hi5 hown hK hP hD hS (hts (.fieldLink RX5 28 "InvaderBoardModel" "code" "I") (List.mem_cons_of_mem _ (List.mem_append_left _ (List.mem_of_getElem? (i := 0) rfl)))) dX5_load_29 (fun H locs hP hD hS => ?_)
        refine lv_aload_n hx hb dX5_load_32 rfl (lv_at hl 0 rfl) ?_
        refine va_get (ci := 5) (v := .int (1 : Int32)) (C := RX5) (T := TX5) (N := 24) hx hb hts hi5 hown hK hP 0 rfl rfl 0 (by decide) (hts (.fieldLink RX5 28 "InvaderBoardModel" "code" "I") (List.mem_cons_of_mem _ (List.mem_append_left _ (List.mem_of_getElem? (i := 0) rfl)))) (fun _ h9 => h9) rfl dX5_load_33 ?_
        refine lv_if_le (tgt := 41) hx hb dX5_load_36 (by decide) (fun c_6 => ?_) (fun c_6 => ?_)
        · exact absurd c_6 (by decide)
        · refine lv_iconst (v := 0) hx hb dX5_load_39 (by decide) ?_
          have hF : rLoad f a p1 p2 p3 = ((0 : Int32), upd f 11 (1 : Int32), a) := by
            unfold rLoad
            refine (if_neg c_1).trans ?_
            refine (if_neg c_3).trans ?_
            refine (if_pos c_5).trans ?_
            rfl
          rw [hF]
          exact KC.reti hx hb hr hlocks hK hP hD hS dX5_load_40 rfl
      · refine lv_iload_n hx hb dX5_load_15 rfl (lv_at hl 1 rfl) ?_
        refine lv_sipush (v := 2048) hx hb dX5_load_16 (by decide) ?_
        refine lv_iload_n hx hb dX5_load_19 rfl (lv_at hl 3 rfl) ?_
        refine lv_isub hx hb dX5_load_20 ?_
        refine lv_icmp_le (tgt := 28) hx hb dX5_load_21 (by decide) (fun c_7 => ?_) (fun c_7 => ?_)
        · refine lv_iconst (v := 0) hx hb dX5_load_28 (by decide) ?_
          refine pu_R_f11 (v := (0 : Int32)) hx hb hts hi5 hown hK hP hD hS (hts (.fieldLink RX5 28 "InvaderBoardModel" "code" "I") (List.mem_cons_of_mem _ (List.mem_append_left _ (List.mem_of_getElem? (i := 0) rfl)))) dX5_load_29 (fun H locs hP hD hS => ?_)
          refine lv_aload_n hx hb dX5_load_32 rfl (lv_at hl 0 rfl) ?_
          refine va_get (ci := 5) (v := .int (0 : Int32)) (C := RX5) (T := TX5) (N := 24) hx hb hts hi5 hown hK hP 0 rfl rfl 0 (by decide) (hts (.fieldLink RX5 28 "InvaderBoardModel" "code" "I") (List.mem_cons_of_mem _ (List.mem_append_left _ (List.mem_of_getElem? (i := 0) rfl)))) (fun _ h9 => h9) rfl dX5_load_33 ?_
          refine lv_if_le (tgt := 41) hx hb dX5_load_36 (by decide) (fun c_8 => ?_) (fun c_8 => ?_)
          · refine lv_iconst (v := 0) hx hb dX5_load_41 (by decide) ?_
            refine lv_istore (lv' := [(4, .int _), (0, .ref _), (1, .int _), (2, .int _), (3, .int _)]) hx hb dX5_load_42 hl (by decide) rfl (fun ls hl => ?_)
            have hF : rLoad f a p1 p2 p3 = (p1 + p3, upd f 11 (0 : Int32), ua a 0 (rLoadL p1 p2 p3 p3.toNatClampNeg 0 (a 0))) := by
              unfold rLoad
              refine (if_neg c_1).trans ?_
              refine (if_neg c_3).trans ?_
              refine (if_neg c_5).trans ?_
              refine (if_pos c_7).trans ?_
              rfl
            rw [hF]
            have hN := ld_Nr c_1 c_3
            have hJ := ld_J hN.1 hN.2 c_5 c_7
            exact lpX5_load hx hb hr hts hown hlocks hml hK hA hN.1 hN.2 hJ.1 hJ.2 _ 0 (Nat.zero_add _) (a 0) _ _ (show va_P D vwCl (wR cI o (upd f 11 (0 : Int32)) (ua a 0 (a 0))) _ from hP) (show va_D A (wR cI o (upd f 11 (0 : Int32)) (ua a 0 (a 0))) from hD) hS ls (lv_sub hl [0, 1, 2, 3, 4] rfl)
          · exact absurd c_8 (by decide)
        · refine lv_iconst (v := 1) hx hb dX5_load_24 (by decide) ?_
          refine lv_goto (tgt := 29) hx hb dX5_load_25 (by decide) ?_
          refine pu_R_f11 (v := (1 : Int32)) hx hb hts hi5 hown hK hP hD hS (hts (.fieldLink RX5 28 "InvaderBoardModel" "code" "I") (List.mem_cons_of_mem _ (List.mem_append_left _ (List.mem_of_getElem? (i := 0) rfl)))) dX5_load_29 (fun H locs hP hD hS => ?_)
          refine lv_aload_n hx hb dX5_load_32 rfl (lv_at hl 0 rfl) ?_
          refine va_get (ci := 5) (v := .int (1 : Int32)) (C := RX5) (T := TX5) (N := 24) hx hb hts hi5 hown hK hP 0 rfl rfl 0 (by decide) (hts (.fieldLink RX5 28 "InvaderBoardModel" "code" "I") (List.mem_cons_of_mem _ (List.mem_append_left _ (List.mem_of_getElem? (i := 0) rfl)))) (fun _ h9 => h9) rfl dX5_load_33 ?_
          refine lv_if_le (tgt := 41) hx hb dX5_load_36 (by decide) (fun c_9 => ?_) (fun c_9 => ?_)
          · exact absurd c_9 (by decide)
          · refine lv_iconst (v := 0) hx hb dX5_load_39 (by decide) ?_
            have hF : rLoad f a p1 p2 p3 = ((0 : Int32), upd f 11 (1 : Int32), a) := by
              unfold rLoad
              refine (if_neg c_1).trans ?_
              refine (if_neg c_3).trans ?_
              refine (if_neg c_5).trans ?_
              refine (if_neg c_7).trans ?_
              rfl
            rw [hF]
            exact KC.reti hx hb hr hlocks hK hP hD hS dX5_load_40 rfl
