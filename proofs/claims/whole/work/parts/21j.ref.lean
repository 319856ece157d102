def rIn (f : Nat → Int32) (a : Nat → Nat → Int32) (p1 : Int32) : Int32 :=
  if (3 : Int32) ≤ p1 then if p1 = (3 : Int32) then (((f 5) <<< ((f 6) &&& 31)) >>> ((8 : Int32) &&& 31)) &&& (255 : Int32)
    else (0 : Int32)
  else (a 3) p1.toNatClampNeg
set_option maxHeartbeats 4000000 in
set_option maxRecDepth 100000 in
theorem kX5_in (l : Launch) (D : va_G) (cI : ClassId) (o : Nat → Nat) (f : Nat → Int32) (a : Nat → Nat → Int32) (p1 : Int32) (h1 : ¬ p1 < 0) : KC l yX5_in wsX5_in 0 [.ref (o 20), .int p1] D cI (wR cI o f a) (wR cI o f a) (some (.int (rIn f a p1))) := by
  refine KC.of (cc := cX5_in) (maxL := 2) (by decide) rfl (Nat.le_of_ble_eq_true rfl) ?_
  intro p e s m below meth c A hx hb hr hts hown hlocks hml hK hP hD hS hA ls hl
  have hl : lv_has ls 2 [(0, .ref (o 20)), (1, .int p1)] := hl
  have hown : s.vm.findClass RX5 = some m.cls := hown
  have hi5 : ∀ w ∈ u_ws RX5 TX5 24, w ∈ wsX5_in := fun w h => List.mem_cons_of_mem _ (List.mem_append_right _ h)
  refine lv_iload_n hx hb dX5_in_0 rfl (lv_at hl 1 rfl) ?_
  refine lv_iconst (v := 3) hx hb dX5_in_1 (by decide) ?_
  refine lv_icmp_ge (tgt := 14) hx hb dX5_in_2 (by decide) (fun c_1 => ?_) (fun c_1 => ?_)
  · refine lv_iload_n hx hb dX5_in_14 rfl (lv_at hl 1 rfl) ?_
    refine lv_iconst (v := 3) hx hb dX5_in_15 (by decide) ?_
    refine lv_icmp_ne (tgt := 38) hx hb dX5_in_16 (by decide) (fun c_2 => ?_) (fun c_2 => ?_)
    · refine lv_iconst (v := 0) hx hb dX5_in_38 (by decide) ?_
      have hF : rIn f a p1 = (0 : Int32) := by
        unfold rIn
        refine (if_pos c_1).trans ?_
        refine (if_neg c_2).trans ?_
        rfl
      rw [hF]
      exact KC.reti hx hb hr hlocks hK hP hD hS dX5_in_39 rfl
    · refine lv_aload_n hx hb dX5_in_19 rfl (lv_at hl 0 rfl) ?_
      refine va_get (ci := 5) (v := .int (f 5)) (C := RX5) (T := TX5) (N := 24) hx hb hts hi5 hown hK hP 0 rfl rfl 17 (by decide) (hts (.fieldLink RX5 157 "InvaderBoardModel" "shifter" "I") (List.mem_cons_of_mem _ (List.mem_append_left _ (List.mem_of_getElem? (i := 1) rfl)))) (fun _ h9 => h9) rfl dX5_in_20 ?_
      refine lv_aload_n hx hb dX5_in_23 rfl (lv_at hl 0 rfl) ?_
      refine va_get (ci := 5) (v := .int (f 6)) (C := RX5) (T := TX5) (N := 24) hx hb hts hi5 hown hK hP 0 rfl rfl 18 (by decide) (hts (.fieldLink RX5 160 "InvaderBoardModel" "offset" "I") (List.mem_cons_of_mem _ (List.mem_append_left _ (List.mem_of_getElem? (i := 2) rfl)))) (fun _ h9 => h9) rfl dX5_in_24 ?_
      refine lv_ishl hx hb dX5_in_27 ?_
      refine lv_bipush (v := 8) hx hb dX5_in_28 (by decide) ?_
      refine lv_ishr hx hb dX5_in_30 ?_
      refine lv_sipush (v := 255) hx hb dX5_in_31 (by decide) ?_
      refine lv_iand hx hb dX5_in_34 ?_
      refine lv_goto (tgt := 39) hx hb dX5_in_35 (by decide) ?_
      have hF : rIn f a p1 = (((f 5) <<< ((f 6) &&& 31)) >>> ((8 : Int32) &&& 31)) &&& (255 : Int32) := by
        unfold rIn
        refine (if_pos c_1).trans ?_
        refine (if_pos c_2).trans ?_
        rfl
      rw [hF]
      exact KC.reti hx hb hr hlocks hK hP hD hS dX5_in_39 rfl
  · refine lv_aload_n hx hb dX5_in_5 rfl (lv_at hl 0 rfl) ?_
    refine va_get (ci := 5) (v := .ref (o 24)) (C := RX5) (T := TX5) (N := 24) hx hb hts hi5 hown hK hP 0 rfl rfl 16 (by decide) (hts (.fieldLink RX5 19 "InvaderBoardModel" "inputs" "[I") (List.mem_cons_of_mem _ (List.mem_append_left _ (List.mem_of_getElem? (i := 0) rfl)))) (fun _ h9 => h9) rfl dX5_in_6 ?_
    refine lv_iload_n hx hb dX5_in_9 rfl (lv_at hl 1 rfl) ?_
    refine va_iald (f := a 3) hx hb hK hP 4 0 rfl rfl (xin 3 (by decide) h1 c_1) dX5_in_10 ?_
    refine lv_goto (tgt := 39) hx hb dX5_in_11 (by decide) ?_
    have hF : rIn f a p1 = (a 3) p1.toNatClampNeg := by
      unfold rIn
      refine (if_neg c_1).trans ?_
      rfl
    rw [hF]
    exact KC.reti hx hb hr hlocks hK hP hD hS dX5_in_39 rfl
