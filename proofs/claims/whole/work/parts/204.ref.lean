def rFlags (f : Nat → Int32) (a : Nat → Nat → Int32)  : Int32 :=
  ((((((f 12) <<< ((7 : Int32) &&& 31)) ||| ((f 13) <<< ((6 : Int32) &&& 31))) ||| ((f 14) <<< ((4 : Int32) &&& 31))) ||| ((f 15) <<< ((2 : Int32) &&& 31))) ||| (2 : Int32)) ||| (f 16)
set_option maxHeartbeats 4000000 in
set_option maxRecDepth 100000 in
theorem kX5_flags (l : Launch) (D : va_G) (cI : ClassId) (o : Nat → Nat) (f : Nat → Int32) (a : Nat → Nat → Int32)  : KC l yX5_flags wsX5_flags 0 [.ref (o 20)] D cI (wR cI o f a) (wR cI o f a) (some (.int (rFlags f a))) := by
  refine KC.of (cc := cX5_flags) (maxL := 1) (by decide) rfl (Nat.le_of_ble_eq_true rfl) ?_
  intro p e s m below meth c A hx hb hr hts hown hlocks hml hK hP hD hS hA ls hl
  have hl : lv_has ls 1 [(0, .ref (o 20))] := hl
  have hown : s.vm.findClass RX5 = some m.cls := hown
  have hi5 : ∀ w ∈ u_ws RX5 TX5 24, w ∈ wsX5_flags := fun w h => List.mem_cons_of_mem _ (List.mem_append_right _ h)
  refine lv_aload_n hx hb dX5_flags_0 rfl (lv_at hl 0 rfl) ?_
  refine va_get (ci := 5) (v := .int (f 12)) (C := RX5) (T := TX5) (N := 24) hx hb hts hi5 hown hK hP 0 rfl rfl 6 (by decide) (hts (.fieldLink RX5 54 "InvaderBoardModel" "sign" "I") (List.mem_cons_of_mem _ (List.mem_append_left _ (List.mem_of_getElem? (i := 0) rfl)))) (fun _ h9 => h9) rfl dX5_flags_1 ?_
  refine lv_bipush (v := 7) hx hb dX5_flags_4 (by decide) ?_
  refine lv_ishl hx hb dX5_flags_6 ?_
  refine lv_aload_n hx hb dX5_flags_7 rfl (lv_at hl 0 rfl) ?_
  refine va_get (ci := 5) (v := .int (f 13)) (C := RX5) (T := TX5) (N := 24) hx hb hts hi5 hown hK hP 0 rfl rfl 7 (by decide) (hts (.fieldLink RX5 57 "InvaderBoardModel" "zero" "I") (List.mem_cons_of_mem _ (List.mem_append_left _ (List.mem_of_getElem? (i := 1) rfl)))) (fun _ h9 => h9) rfl dX5_flags_8 ?_
  refine lv_bipush (v := 6) hx hb dX5_flags_11 (by decide) ?_
  refine lv_ishl hx hb dX5_flags_13 ?_
  refine lv_ior hx hb dX5_flags_14 ?_
  refine lv_aload_n hx hb dX5_flags_15 rfl (lv_at hl 0 rfl) ?_
  refine va_get (ci := 5) (v := .int (f 14)) (C := RX5) (T := TX5) (N := 24) hx hb hts hi5 hown hK hP 0 rfl rfl 8 (by decide) (hts (.fieldLink RX5 63 "InvaderBoardModel" "half" "I") (List.mem_cons_of_mem _ (List.mem_append_left _ (List.mem_of_getElem? (i := 2) rfl)))) (fun _ h9 => h9) rfl dX5_flags_16 ?_
  refine lv_iconst (v := 4) hx hb dX5_flags_19 (by decide) ?_
  refine lv_ishl hx hb dX5_flags_20 ?_
  refine lv_ior hx hb dX5_flags_21 ?_
  refine lv_aload_n hx hb dX5_flags_22 rfl (lv_at hl 0 rfl) ?_
  refine va_get (ci := 5) (v := .int (f 15)) (C := RX5) (T := TX5) (N := 24) hx hb hts hi5 hown hK hP 0 rfl rfl 9 (by decide) (hts (.fieldLink RX5 60 "InvaderBoardModel" "parity" "I") (List.mem_cons_of_mem _ (List.mem_append_left _ (List.mem_of_getElem? (i := 3) rfl)))) (fun _ h9 => h9) rfl dX5_flags_23 ?_
  refine lv_iconst (v := 2) hx hb dX5_flags_26 (by decide) ?_
  refine lv_ishl hx hb dX5_flags_27 ?_
  refine lv_ior hx hb dX5_flags_28 ?_
  refine lv_iconst (v := 2) hx hb dX5_flags_29 (by decide) ?_
  refine lv_ior hx hb dX5_flags_30 ?_
  refine lv_aload_n hx hb dX5_flags_31 rfl (lv_at hl 0 rfl) ?_
  refine va_get (ci := 5) (v := .int (f 16)) (C := RX5) (T := TX5) (N := 24) hx hb hts hi5 hown hK hP 0 rfl rfl 10 (by decide) (hts (.fieldLink RX5 66 "InvaderBoardModel" "carry" "I") (List.mem_cons_of_mem _ (List.mem_append_left _ (List.mem_of_getElem? (i := 4) rfl)))) (fun _ h9 => h9) rfl dX5_flags_32 ?_
  refine lv_ior hx hb dX5_flags_35 ?_
  have hF : rFlags f a = ((((((f 12) <<< ((7 : Int32) &&& 31)) ||| ((f 13) <<< ((6 : Int32) &&& 31))) ||| ((f 14) <<< ((4 : Int32) &&& 31))) ||| ((f 15) <<< ((2 : Int32) &&& 31))) ||| (2 : Int32)) ||| (f 16) := rfl
  rw [hF]
  exact KC.reti hx hb hr hlocks hK hP hD hS dX5_flags_36 rfl
def rSetFlags (f : Nat → Int32) (a : Nat → Nat → Int32) (p1 : Int32) : (Nat → Int32) :=
  upd (upd (upd (upd (upd f 12 ((p1 >>> ((7 : Int32) &&& 31)) &&& (1 : Int32))) 13 ((p1 >>> ((6 : Int32) &&& 31)) &&& (1 : Int32))) 14 ((p1 >>> ((4 : Int32) &&& 31)) &&& (1 : Int32))) 15 ((p1 >>> ((2 : Int32) &&& 31)) &&& (1 : Int32))) 16 (p1 &&& (1 : Int32))
set_option maxHeartbeats 4000000 in
set_option maxRecDepth 100000 in
theorem kX5_setFlags (l : Launch) (D : va_G) (cI : ClassId) (o : Nat → Nat) (f : Nat → Int32) (a : Nat → Nat → Int32) (p1 : Int32) : KC l yX5_setFlags wsX5_setFlags 0 [.ref (o 20), .int p1] D cI (wR cI o f a) (wR cI o (rSetFlags f a p1) a) none := by
  refine KC.of (cc := cX5_setFlags) (maxL := 2) (by decide) rfl (Nat.le_of_ble_eq_true rfl) ?_
  intro p e s m below meth c A hx hb hr hts hown hlocks hml hK hP hD hS hA ls hl
  have hl : lv_has ls 2 [(0, .ref (o 20)), (1, .int p1)] := hl
  have hown : s.vm.findClass RX5 = some m.cls := hown
  have hi5 : ∀ w ∈ u_ws RX5 TX5 24, w ∈ wsX5_setFlags := fun w h => List.mem_cons_of_mem _ (List.mem_append_right _ h)
  refine lv_aload_n hx hb dX5_setFlags_0 rfl (lv_at hl 0 rfl) ?_
  refine lv_iload_n hx hb dX5_setFlags_1 rfl (lv_at hl 1 rfl) ?_
  refine lv_bipush (v := 7) hx hb dX5_setFlags_2 (by decide) ?_
  refine lv_ishr hx hb dX5_setFlags_4 ?_
  refine lv_iconst (v := 1) hx hb dX5_setFlags_5 (by decide) ?_
  refine lv_iand hx hb dX5_setFlags_6 ?_
  refine pu_R_f12 (v := (p1 >>> ((7 : Int32) &&& 31)) &&& (1 : Int32)) hx hb hts hi5 hown hK hP hD hS (hts (.fieldLink RX5 54 "InvaderBoardModel" "sign" "I") (List.mem_cons_of_mem _ (List.mem_append_left _ (List.mem_of_getElem? (i := 0) rfl)))) dX5_setFlags_7 (fun H locs hP hD hS => ?_)
  refine lv_aload_n hx hb dX5_setFlags_10 rfl (lv_at hl 0 rfl) ?_
  refine lv_iload_n hx hb dX5_setFlags_11 rfl (lv_at hl 1 rfl) ?_
  refine lv_bipush (v := 6) hx hb dX5_setFlags_12 (by decide) ?_
  refine lv_ishr hx hb dX5_setFlags_14 ?_
  refine lv_iconst (v := 1) hx hb dX5_setFlags_15 (by decide) ?_
  refine lv_iand hx hb dX5_setFlags_16 ?_
  refine pu_R_f13 (v := (p1 >>> ((6 : Int32) &&& 31)) &&& (1 : Int32)) hx hb hts hi5 hown hK hP hD hS (hts (.fieldLink RX5 57 "InvaderBoardModel" "zero" "I") (List.mem_cons_of_mem _ (List.mem_append_left _ (List.mem_of_getElem? (i := 1) rfl)))) dX5_setFlags_17 (fun H locs hP hD hS => ?_)
  refine lv_aload_n hx hb dX5_setFlags_20 rfl (lv_at hl 0 rfl) ?_
  refine lv_iload_n hx hb dX5_setFlags_21 rfl (lv_at hl 1 rfl) ?_
  refine lv_iconst (v := 4) hx hb dX5_setFlags_22 (by decide) ?_
  refine lv_ishr hx hb dX5_setFlags_23 ?_
  refine lv_iconst (v := 1) hx hb dX5_setFlags_24 (by decide) ?_
  refine lv_iand hx hb dX5_setFlags_25 ?_
  refine pu_R_f14 (v := (p1 >>> ((4 : Int32) &&& 31)) &&& (1 : Int32)) hx hb hts hi5 hown hK hP hD hS (hts (.fieldLink RX5 63 "InvaderBoardModel" "half" "I") (List.mem_cons_of_mem _ (List.mem_append_left _ (List.mem_of_getElem? (i := 2) rfl)))) dX5_setFlags_26 (fun H locs hP hD hS => ?_)
  refine lv_aload_n hx hb dX5_setFlags_29 rfl (lv_at hl 0 rfl) ?_
  refine lv_iload_n hx hb dX5_setFlags_30 rfl (lv_at hl 1 rfl) ?_
  refine lv_iconst (v := 2) hx hb dX5_setFlags_31 (by decide) ?_
  refine lv_ishr hx hb dX5_setFlags_32 ?_
  refine lv_iconst (v := 1) hx hb dX5_setFlags_33 (by decide) ?_
  refine lv_iand hx hb dX5_setFlags_34 ?_
  refine pu_R_f15 (v := (p1 >>> ((2 : Int32) &&& 31)) &&& (1 : Int32)) hx hb hts hi5 hown hK hP hD hS (hts (.fieldLink RX5 60 "InvaderBoardModel" "parity" "I") (List.mem_cons_of_mem _ (List.mem_append_left _ (List.mem_of_getElem? (i := 3) rfl)))) dX5_setFlags_35 (fun H locs hP hD hS => ?_)
  refine lv_aload_n hx hb dX5_setFlags_38 rfl (lv_at hl 0 rfl) ?_
  refine lv_iload_n hx hb dX5_setFlags_39 rfl (lv_at hl 1 rfl) ?_
  refine lv_iconst (v := 1) hx hb dX5_setFlags_40 (by decide) ?_
  refine lv_iand hx hb dX5_setFlags_41 ?_
  refine pu_R_f16 (v := p1 &&& (1 : Int32)) hx hb hts hi5 hown hK hP hD hS (hts (.fieldLink RX5 66 "InvaderBoardModel" "carry" "I") (List.mem_cons_of_mem _ (List.mem_append_left _ (List.mem_of_getElem? (i := 4) rfl)))) dX5_setFlags_42 (fun H locs hP hD hS => ?_)
  have hF : rSetFlags f a p1 = upd (upd (upd (upd (upd f 12 ((p1 >>> ((7 : Int32) &&& 31)) &&& (1 : Int32))) 13 ((p1 >>> ((6 : Int32) &&& 31)) &&& (1 : Int32))) 14 ((p1 >>> ((4 : Int32) &&& 31)) &&& (1 : Int32))) 15 ((p1 >>> ((2 : Int32) &&& 31)) &&& (1 : Int32))) 16 (p1 &&& (1 : Int32)) := rfl
  rw [hF]
  exact KC.retv hx hb hr hlocks hK hP hD hS dX5_setFlags_45
def rHolds (f : Nat → Int32) (a : Nat → Nat → Int32) (p1 : Int32) : Int32 :=
  if (2 : Int32) ≤ p1 then if (4 : Int32) ≤ p1 then if (6 : Int32) ≤ p1 then if f 12 = p1 &&& (1 : Int32) then (1 : Int32)
        else (0 : Int32)
      else if f 15 = p1 &&& (1 : Int32) then (1 : Int32)
        else (0 : Int32)
    else if f 16 = p1 &&& (1 : Int32) then (1 : Int32)
      else (0 : Int32)
  else if f 13 = p1 &&& (1 : Int32) then (1 : Int32)
    else (0 : Int32)
set_option maxHeartbeats 4000000 in
set_option maxRecDepth 100000 in
theorem kX5_holds (l : Launch) (D : va_G) (cI : ClassId) (o : Nat → Nat) (f : Nat → Int32) (a : Nat → Nat → Int32) (p1 : Int32) : KC l yX5_holds wsX5_holds 0 [.ref (o 20), .int p1] D cI (wR cI o f a) (wR cI o f a) (some (.int (rHolds f a p1))) := by
  refine KC.of (cc := cX5_holds) (maxL := 3) (by decide) rfl (Nat.le_of_ble_eq_true rfl) ?_
  intro p e s m below meth c A hx hb hr hts hown hlocks hml hK hP hD hS hA ls hl
  have hl : lv_has ls 3 [(0, .ref (o 20)), (1, .int p1)] := hl
  have hown : s.vm.findClass RX5 = some m.cls := hown
  have hi5 : ∀ w ∈ u_ws RX5 TX5 24, w ∈ wsX5_holds := fun w h => List.mem_cons_of_mem _ (List.mem_append_right _ h)
  refine lv_iload_n hx hb dX5_holds_0 rfl (lv_at hl 1 rfl) ?_
  refine lv_iconst (v := 2) hx hb dX5_holds_1 (by decide) ?_
  refine lv_icmp_ge (tgt := 12) hx hb dX5_holds_2 (by decide) (fun c_1 => ?_) (fun c_1 => ?_)
  · refine lv_iload_n hx hb dX5_holds_12 rfl (lv_at hl 1 rfl) ?_
    refine lv_iconst (v := 4) hx hb dX5_holds_13 (by decide) ?_
    refine lv_icmp_ge (tgt := 24) hx hb dX5_holds_14 (by decide) (fun c_2 => ?_) (fun c_2 => ?_)
    · refine lv_iload_n hx hb dX5_holds_24 rfl (lv_at hl 1 rfl) ?_
      refine lv_bipush (v := 6) hx hb dX5_holds_25 (by decide) ?_
      refine lv_icmp_ge (tgt := 37) hx hb dX5_holds_27 (by decide) (fun c_3 => ?_) (fun c_3 => ?_)
      · refine lv_aload_n hx hb dX5_holds_37 rfl (lv_at hl 0 rfl) ?_
        refine va_get (ci := 5) (v := .int (f 12)) (C := RX5) (T := TX5) (N := 24) hx hb hts hi5 hown hK hP 0 rfl rfl 6 (by decide) (hts (.fieldLink RX5 54 "InvaderBoardModel" "sign" "I") (List.mem_cons_of_mem _ (List.mem_append_left _ (List.mem_of_getElem? (i := 3) rfl)))) (fun _ h9 => h9) rfl dX5_holds_38 ?_
        refine lv_istore_n (lv' := [(2, .int _), (0, .ref _), (1, .int _)]) hx hb dX5_holds_41 rfl hl (by decide) rfl (fun ls hl => ?_)
        refine lv_iload_n hx hb dX5_holds_42 rfl (lv_at hl 0 rfl) ?_
        refine lv_iload_n hx hb dX5_holds_43 rfl (lv_at hl 2 rfl) ?_
        refine lv_iconst (v := 1) hx hb dX5_holds_44 (by decide) ?_
        refine lv_iand hx hb dX5_holds_45 ?_
        refine lv_icmp_ne (tgt := 53) hx hb dX5_holds_46 (by decide) (fun c_4 => ?_) (fun c_4 => ?_)
        · refine lv_iconst (v := 0) hx hb dX5_holds_53 (by decide) ?_
          have hF : rHolds f a p1 = (0 : Int32) := by
            unfold rHolds
            refine (if_pos c_1).trans ?_
            refine (if_pos c_2).trans ?_
            refine (if_pos c_3).trans ?_
            refine (if_neg c_4).trans ?_
            rfl
          rw [hF]
          exact KC.retz hx hb hr hlocks hK hP hD hS dX5_holds_54 (by decide +kernel) rfl
        · refine lv_iconst (v := 1) hx hb dX5_holds_49 (by decide) ?_
          refine lv_goto (tgt := 54) hx hb dX5_holds_50 (by decide) ?_
          have hF : rHolds f a p1 = (1 : Int32) := by
            unfold rHolds
            refine (if_pos c_1).trans ?_
            refine (if_pos c_2).trans ?_
            refine (if_pos c_3).trans ?_
            refine (if_pos c_4).trans ?_
            rfl
          rw [hF]
          exact KC.retz hx hb hr hlocks hK hP hD hS dX5_holds_54 (by decide +kernel) rfl
      · refine lv_aload_n hx hb dX5_holds_30 rfl (lv_at hl 0 rfl) ?_
        refine va_get (ci := 5) (v := .int (f 15)) (C := RX5) (T := TX5) (N := 24) hx hb hts hi5 hown hK hP 0 rfl rfl 9 (by decide) (hts (.fieldLink RX5 60 "InvaderBoardModel" "parity" "I") (List.mem_cons_of_mem _ (List.mem_append_left _ (List.mem_of_getElem? (i := 2) rfl)))) (fun _ h9 => h9) rfl dX5_holds_31 ?_
        refine lv_goto (tgt := 41) hx hb dX5_holds_34 (by decide) ?_
        refine lv_istore_n (lv' := [(2, .int _), (0, .ref _), (1, .int _)]) hx hb dX5_holds_41 rfl hl (by decide) rfl (fun ls hl => ?_)
        refine lv_iload_n hx hb dX5_holds_42 rfl (lv_at hl 0 rfl) ?_
        refine lv_iload_n hx hb dX5_holds_43 rfl (lv_at hl 2 rfl) ?_
        refine lv_iconst (v := 1) hx hb dX5_holds_44 (by decide) ?_
        refine lv_iand hx hb dX5_holds_45 ?_
        refine lv_icmp_ne (tgt := 53) hx hb dX5_holds_46 (by decide) (fun c_5 => ?_) (fun c_5 => ?_)
        · refine lv_iconst (v := 0) hx hb dX5_holds_53 (by decide) ?_
          have hF : rHolds f a p1 = (0 : Int32) := by
            unfold rHolds
            refine (if_pos c_1).trans ?_
            refine (if_pos c_2).trans ?_
            refine (if_neg c_3).trans ?_
            refine (if_neg c_5).trans ?_
            rfl
          rw [hF]
          exact KC.retz hx hb hr hlocks hK hP hD hS dX5_holds_54 (by decide +kernel) rfl
        · refine lv_iconst (v := 1) hx hb dX5_holds_49 (by decide) ?_
          refine lv_goto (tgt := 54) hx hb dX5_holds_50 (by decide) ?_
          have hF : rHolds f a p1 = (1 : Int32) := by
            unfold rHolds
            refine (if_pos c_1).trans ?_
            refine (if_pos c_2).trans ?_
            refine (if_neg c_3).trans ?_
            refine (if_pos c_5).trans ?_
            rfl
          rw [hF]
          exact KC.retz hx hb hr hlocks hK hP hD hS dX5_holds_54 (by decide +kernel) rfl
    · refine lv_aload_n hx hb dX5_holds_17 rfl (lv_at hl 0 rfl) ?_
      refine va_get (ci := 5) (v := .int (f 16)) (C := RX5) (T := TX5) (N := 24) hx hb hts hi5 hown hK hP 0 rfl rfl 10 (by decide) (hts (.fieldLink RX5 66 "InvaderBoardModel" "carry" "I") (List.mem_cons_of_mem _ (List.mem_append_left _ (List.mem_of_getElem? (i := 1) rfl)))) (fun _ h9 => h9) rfl dX5_holds_18 ?_
      refine lv_goto (tgt := 41) hx hb dX5_holds_21 (by decide) ?_
      refine lv_istore_n (lv' := [(2, .int _), (0, .ref _), (1, .int _)]) hx hb dX5_holds_41 rfl hl (by decide) rfl (fun ls hl => ?_)
      refine lv_iload_n hx hb dX5_holds_42 rfl (lv_at hl 0 rfl) ?_
      refine lv_iload_n hx hb dX5_holds_43 rfl (lv_at hl 2 rfl) ?_
      refine lv_iconst (v := 1) hx hb dX5_holds_44 (by decide) ?_
      refine lv_iand hx hb dX5_holds_45 ?_
      refine lv_icmp_ne (tgt := 53) hx hb dX5_holds_46 (by decide) (fun c_6 => ?_) (fun c_6 => ?_)
      · refine lv_iconst (v := 0) hx hb dX5_holds_53 (by decide) ?_
        have hF : rHolds f a p1 = (0 : Int32) := by
          unfold rHolds
          refine (if_pos c_1).trans ?_
          refine (if_neg c_2).trans ?_
          refine (if_neg c_6).trans ?_
          rfl
        rw [hF]
        exact KC.retz hx hb hr hlocks hK hP hD hS dX5_holds_54 (by decide +kernel) rfl
      · refine lv_iconst (v := 1) hx hb dX5_holds_49 (by decide) ?_
        refine lv_goto (tgt := 54) hx hb dX5_holds_50 (by decide) ?_
        have hF : rHolds f a p1 = (1 : Int32) := by
          unfold rHolds
          refine (if_pos c_1).trans ?_
          refine (if_neg c_2).trans ?_
          refine (if_pos c_6).trans ?_
          rfl
        rw [hF]
        exact KC.retz hx hb hr hlocks hK hP hD hS dX5_holds_54 (by decide +kernel) rfl
  · refine lv_aload_n hx hb dX5_holds_5 rfl (lv_at hl 0 rfl) ?_
    refine va_get (ci := 5) (v := .int (f 13)) (C := RX5) (T := TX5) (N := 24) hx hb hts hi5 hown hK hP 0 rfl rfl 7 (by decide) (hts (.fieldLink RX5 57 "InvaderBoardModel" "zero" "I") (List.mem_cons_of_mem _ (List.mem_append_left _ (List.mem_of_getElem? (i := 0) rfl)))) (fun _ h9 => h9) rfl dX5_holds_6 ?_
    refine lv_goto (tgt := 41) hx hb dX5_holds_9 (by decide) ?_
    refine lv_istore_n (lv' := [(2, .int _), (0, .ref _), (1, .int _)]) hx hb dX5_holds_41 rfl hl (by decide) rfl (fun ls hl => ?_)
    refine lv_iload_n hx hb dX5_holds_42 rfl (lv_at hl 0 rfl) ?_
    refine lv_iload_n hx hb dX5_holds_43 rfl (lv_at hl 2 rfl) ?_
    refine lv_iconst (v := 1) hx hb dX5_holds_44 (by decide) ?_
    refine lv_iand hx hb dX5_holds_45 ?_
    refine lv_icmp_ne (tgt := 53) hx hb dX5_holds_46 (by decide) (fun c_7 => ?_) (fun c_7 => ?_)
    · refine lv_iconst (v := 0) hx hb dX5_holds_53 (by decide) ?_
      have hF : rHolds f a p1 = (0 : Int32) := by
        unfold rHolds
        refine (if_neg c_1).trans ?_
        refine (if_neg c_7).trans ?_
        rfl
      rw [hF]
      exact KC.retz hx hb hr hlocks hK hP hD hS dX5_holds_54 (by decide +kernel) rfl
    · refine lv_iconst (v := 1) hx hb dX5_holds_49 (by decide) ?_
      refine lv_goto (tgt := 54) hx hb dX5_holds_50 (by decide) ?_
      have hF : rHolds f a p1 = (1 : Int32) := by
        unfold rHolds
        refine (if_neg c_1).trans ?_
        refine (if_pos c_7).trans ?_
        rfl
      rw [hF]
      exact KC.retz hx hb hr hlocks hK hP hD hS dX5_holds_54 (by decide +kernel) rfl
theorem rNext_nn {f f' : Nat → Int32} {a : Nat → Nat → Int32} {r : Int32} (hR : ∀ q : Int32, ¬ rRead f a q < 0) (h : rNext f a = (r, f')) : ¬ r < 0 := by
  have e : r = (rNext f a).1 := by rw [h]
  rw [e]
  exact hR _
