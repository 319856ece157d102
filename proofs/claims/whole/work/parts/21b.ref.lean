def rCount (f : Nat → Int32) (a : Nat → Nat → Int32) (p1 : Int32) (p2 : Int32) : (Nat → Int32) × (Nat → Nat → Int32) :=
  if p2 ≤ 0 then if (((rGet f a p1) + p2) &&& (255 : Int32)) &&& (15 : Int32) = (15 : Int32) then (rSigns (upd f 14 (0 : Int32)) (rSet f a p1 (((rGet f a p1) + p2) &&& (255 : Int32))) (((rGet f a p1) + p2) &&& (255 : Int32)), rSet f a p1 (((rGet f a p1) + p2) &&& (255 : Int32)))
    else (rSigns (upd f 14 (1 : Int32)) (rSet f a p1 (((rGet f a p1) + p2) &&& (255 : Int32))) (((rGet f a p1) + p2) &&& (255 : Int32)), rSet f a p1 (((rGet f a p1) + p2) &&& (255 : Int32)))
  else if (((rGet f a p1) + p2) &&& (255 : Int32)) &&& (15 : Int32) = 0 then (rSigns (upd f 14 (1 : Int32)) (rSet f a p1 (((rGet f a p1) + p2) &&& (255 : Int32))) (((rGet f a p1) + p2) &&& (255 : Int32)), rSet f a p1 (((rGet f a p1) + p2) &&& (255 : Int32)))
    else (rSigns (upd f 14 (0 : Int32)) (rSet f a p1 (((rGet f a p1) + p2) &&& (255 : Int32))) (((rGet f a p1) + p2) &&& (255 : Int32)), rSet f a p1 (((rGet f a p1) + p2) &&& (255 : Int32)))
set_option maxHeartbeats 4000000 in
set_option maxRecDepth 100000 in
theorem kX5_count (l : Launch) (D : va_G) (cI : ClassId) (o : Nat → Nat) (f : Nat → Int32) (a : Nat → Nat → Int32) (p1 : Int32) (p2 : Int32) (h1 : vp_in p1 8) : KC l yX5_count wsX5_count 2 [.ref (o 20), .int p1, .int p2] D cI (wR cI o f a) (wR cI o ((rCount f a p1 p2).1) ((rCount f a p1 p2).2)) none := by
  refine KC.of (cc := cX5_count) (maxL := 4) (by decide) rfl (Nat.le_of_ble_eq_true rfl) ?_
  intro p e s m below meth c A hx hb hr hts hown hlocks hml hK hP hD hS hA ls hl
  have hl : lv_has ls 4 [(0, .ref (o 20)), (1, .int p1), (2, .int p2)] := hl
  have hown : s.vm.findClass RX5 = some m.cls := hown
  have hi5 : ∀ w ∈ u_ws RX5 TX5 24, w ∈ wsX5_count := fun w h => List.mem_cons_of_mem _ (List.mem_append_right _ h)
  refine lv_aload_n hx hb dX5_count_0 rfl (lv_at hl 0 rfl) ?_
  refine lv_iload_n hx hb dX5_count_1 rfl (lv_at hl 1 rfl) ?_
  refine KC.calli (ci := 5) (rest := []) (wt := wR cI o f a) (kX5_get l D cI o f a p1 h1) (cwV 1 hts gX5_count_X5_get rfl rfl rfl (by decide +kernel) ⟨Nat.le_of_ble_eq_true rfl, Nat.le_of_ble_eq_true rfl⟩) ⟨hx, hb, hml, hown, hts⟩ hK hP hD hS hA rfl rfl rfl [0, 1, 2, 3, 4, 5, 6] [] [0, 1, 2, 3, 4, 5, 6] (by decide) rfl (wr := []) rfl (by decide) (by decide) (by decide) rfl rfl hl.1 rfl (Nat.le_of_ble_eq_true rfl) dX5_count_2 ⟨Nat.zero_le _, Nat.zero_le _⟩ (fun H locs hP hD hS => ?_)
  refine lv_iload_n hx hb dX5_count_5 rfl (lv_at hl 2 rfl) ?_
  refine lv_iadd hx hb dX5_count_6 ?_
  refine lv_sipush (v := 255) hx hb dX5_count_7 (by decide) ?_
  refine lv_iand hx hb dX5_count_10 ?_
  refine lv_istore_n (lv' := [(3, .int _), (0, .ref _), (1, .int _), (2, .int _)]) hx hb dX5_count_11 rfl hl (by decide) rfl (fun ls hl => ?_)
  refine lv_aload_n hx hb dX5_count_12 rfl (lv_at hl 1 rfl) ?_
  refine lv_iload_n hx hb dX5_count_13 rfl (lv_at hl 2 rfl) ?_
  refine lv_iload_n hx hb dX5_count_14 rfl (lv_at hl 0 rfl) ?_
  refine KC.callv (ci := 5) (rest := []) (wt := wR cI o f (rSet f a p1 (((rGet f a p1) + p2) &&& (255 : Int32)))) (kX5_set l D cI o f a p1 (((rGet f a p1) + p2) &&& (255 : Int32)) h1) (cwV 2 hts gX5_count_X5_set rfl rfl rfl (by decide +kernel) ⟨Nat.le_of_ble_eq_true rfl, Nat.le_of_ble_eq_true rfl⟩) ⟨hx, hb, hml, hown, hts⟩ hK hP hD hS hA rfl rfl rfl [0, 1, 2, 3, 4, 5, 6] [] [0, 1, 2, 3, 4, 5, 6] (by decide) rfl (wr := []) rfl (by decide) (by decide) (by decide) rfl rfl hl.1 rfl (Nat.le_of_ble_eq_true rfl) dX5_count_15 ⟨Nat.zero_le _, Nat.zero_le _⟩ (fun H locs hP hD hS => ?_)
  refine lv_aload_n hx hb dX5_count_18 rfl (lv_at hl 1 rfl) ?_
  refine lv_iload_n hx hb dX5_count_19 rfl (lv_at hl 3 rfl) ?_
  refine lv_if_le (tgt := 38) hx hb dX5_count_20 (by decide) (fun c_1 => ?_) (fun c_1 => ?_)
  · refine lv_iload_n hx hb dX5_count_38 rfl (lv_at hl 0 rfl) ?_
    refine lv_bipush (v := 15) hx hb dX5_count_39 (by decide) ?_
    refine lv_iand hx hb dX5_count_41 ?_
    refine lv_bipush (v := 15) hx hb dX5_count_42 (by decide) ?_
    refine lv_icmp_ne (tgt := 51) hx hb dX5_count_44 (by decide) (fun c_2 => ?_) (fun c_2 => ?_)
    · refine lv_iconst (v := 1) hx hb dX5_count_51 (by decide) ?_
      refine pu_R_f14 (v := (1 : Int32)) hx hb hts hi5 hown hK hP hD hS (hts (.fieldLink RX5 63 "InvaderBoardModel" "half" "I") (List.mem_cons_of_mem _ (List.mem_append_left _ (List.mem_append_left _ (List.mem_of_getElem? (i := 0) rfl))))) dX5_count_52 (fun H locs hP hD hS => ?_)
      refine lv_aload_n hx hb dX5_count_55 rfl (lv_at hl 1 rfl) ?_
      refine lv_iload_n hx hb dX5_count_56 rfl (lv_at hl 0 rfl) ?_
      refine KC.callv (ci := 5) (rest := []) (wt := wR cI o (rSigns (upd f 14 (1 : Int32)) (rSet f a p1 (((rGet f a p1) + p2) &&& (255 : Int32))) (((rGet f a p1) + p2) &&& (255 : Int32))) (rSet f a p1 (((rGet f a p1) + p2) &&& (255 : Int32)))) (kX5_signs l D cI o (upd f 14 (1 : Int32)) (rSet f a p1 (((rGet f a p1) + p2) &&& (255 : Int32))) (((rGet f a p1) + p2) &&& (255 : Int32))) (cwV 1 hts gX5_count_X5_signs rfl rfl rfl (by decide +kernel) ⟨Nat.le_of_ble_eq_true rfl, Nat.le_of_ble_eq_true rfl⟩) ⟨hx, hb, hml, hown, hts⟩ hK hP hD hS hA rfl rfl rfl [0, 1, 2, 3, 4, 5, 6] [] [0, 1, 2, 3, 4, 5, 6] (by decide) rfl (wr := []) rfl (by decide) (by decide) (by decide) rfl rfl hl.1 rfl (Nat.le_of_ble_eq_true rfl) dX5_count_57 ⟨Nat.zero_le _, Nat.zero_le _⟩ (fun H locs hP hD hS => ?_)
      have hF : rCount f a p1 p2 = (rSigns (upd f 14 (1 : Int32)) (rSet f a p1 (((rGet f a p1) + p2) &&& (255 : Int32))) (((rGet f a p1) + p2) &&& (255 : Int32)), rSet f a p1 (((rGet f a p1) + p2) &&& (255 : Int32))) := by
        unfold rCount
        refine (if_pos c_1).trans ?_
        refine (if_neg c_2).trans ?_
        rfl
      rw [hF]
      exact KC.retv hx hb hr hlocks hK hP hD hS dX5_count_60
    · refine lv_iconst (v := 0) hx hb dX5_count_47 (by decide) ?_
      refine lv_goto (tgt := 52) hx hb dX5_count_48 (by decide) ?_
      refine pu_R_f14 (v := (0 : Int32)) hx hb hts hi5 hown hK hP hD hS (hts (.fieldLink RX5 63 "InvaderBoardModel" "half" "I") (List.mem_cons_of_mem _ (List.mem_append_left _ (List.mem_append_left _ (List.mem_of_getElem? (i := 0) rfl))))) dX5_count_52 (fun H locs hP hD hS => ?_)
      refine lv_aload_n hx hb dX5_count_55 rfl (lv_at hl 1 rfl) ?_
      refine lv_iload_n hx hb dX5_count_56 rfl (lv_at hl 0 rfl) ?_
      refine KC.callv (ci := 5) (rest := []) (wt := wR cI o (rSigns (upd f 14 (0 : Int32)) (rSet f a p1 (((rGet f a p1) + p2) &&& (255 : Int32))) (((rGet f a p1) + p2) &&& (255 : Int32))) (rSet f a p1 (((rGet f a p1) + p2) &&& (255 : Int32)))) (kX5_signs l D cI o (upd f 14 (0 : Int32)) (rSet f a p1 (((rGet f a p1) + p2) &&& (255 : Int32))) (((rGet f a p1) + p2) &&& (255 : Int32))) (cwV 1 hts gX5_count_X5_signs rfl rfl rfl (by decide +kernel) ⟨Nat.le_of_ble_eq_true rfl, Nat.le_of_ble_eq_true rfl⟩) ⟨hx, hb, hml, hown, hts⟩ hK hP hD hS hA rfl rfl rfl [0, 1, 2, 3, 4, 5, 6] [] [0, 1, 2, 3, 4, 5, 6] (by decide) rfl (wr := []) rfl (by decide) (by decide) (by decide) rfl rfl hl.1 rfl (Nat.le_of_ble_eq_true rfl) dX5_count_57 ⟨Nat.zero_le _, Nat.zero_le _⟩ (fun H locs hP hD hS => ?_)
      have hF : rCount f a p1 p2 = (rSigns (upd f 14 (0 : Int32)) (rSet f a p1 (((rGet f a p1) + p2) &&& (255 : Int32))) (((rGet f a p1) + p2) &&& (255 : Int32)), rSet f a p1 (((rGet f a p1) + p2) &&& (255 : Int32))) := by
        unfold rCount
        refine (if_pos c_1).trans ?_
        refine (if_pos c_2).trans ?_
        rfl
      rw [hF]
      exact KC.retv hx hb hr hlocks hK hP hD hS dX5_count_60
  · refine lv_iload_n hx hb dX5_count_23 rfl (lv_at hl 0 rfl) ?_
    refine lv_bipush (v := 15) hx hb dX5_count_24 (by decide) ?_
    refine lv_iand hx hb dX5_count_26 ?_
    refine lv_if_ne (tgt := 34) hx hb dX5_count_27 (by decide) (fun c_3 => ?_) (fun c_3 => ?_)
    · refine lv_iconst (v := 0) hx hb dX5_count_34 (by decide) ?_
      refine lv_goto (tgt := 52) hx hb dX5_count_35 (by decide) ?_
      refine pu_R_f14 (v := (0 : Int32)) hx hb hts hi5 hown hK hP hD hS (hts (.fieldLink RX5 63 "InvaderBoardModel" "half" "I") (List.mem_cons_of_mem _ (List.mem_append_left _ (List.mem_append_left _ (List.mem_of_getElem? (i := 0) rfl))))) dX5_count_52 (fun H locs hP hD hS => ?_)
      refine lv_aload_n hx hb dX5_count_55 rfl (lv_at hl 1 rfl) ?_
      refine lv_iload_n hx hb dX5_count_56 rfl (lv_at hl 0 rfl) ?_
      refine KC.callv (ci := 5) (rest := []) (wt := wR cI o (rSigns (upd f 14 (0 : Int32)) (rSet f a p1 (((rGet f a p1) + p2) &&& (255 : Int32))) (((rGet f a p1) + p2) &&& (255 : Int32))) (rSet f a p1 (((rGet f a p1) + p2) &&& (255 : Int32)))) (kX5_signs l D cI o (upd f 14 (0 : Int32)) (rSet f a p1 (((rGet f a p1) + p2) &&& (255 : Int32))) (((rGet f a p1) + p2) &&& (255 : Int32))) (cwV 1 hts gX5_count_X5_signs rfl rfl rfl (by decide +kernel) ⟨Nat.le_of_ble_eq_true rfl, Nat.le_of_ble_eq_true rfl⟩) ⟨hx, hb, hml, hown, hts⟩ hK hP hD hS hA rfl rfl rfl [0, 1, 2, 3, 4, 5, 6] [] [0, 1, 2, 3, 4, 5, 6] (by decide) rfl (wr := []) rfl (by decide) (by decide) (by decide) rfl rfl hl.1 rfl (Nat.le_of_ble_eq_true rfl) dX5_count_57 ⟨Nat.zero_le _, Nat.zero_le _⟩ (fun H locs hP hD hS => ?_)
      have hF : rCount f a p1 p2 = (rSigns (upd f 14 (0 : Int32)) (rSet f a p1 (((rGet f a p1) + p2) &&& (255 : Int32))) (((rGet f a p1) + p2) &&& (255 : Int32)), rSet f a p1 (((rGet f a p1) + p2) &&& (255 : Int32))) := by
        unfold rCount
        refine (if_neg c_1).trans ?_
        refine (if_neg c_3).trans ?_
        rfl
      rw [hF]
      exact KC.retv hx hb hr hlocks hK hP hD hS dX5_count_60
    · refine lv_iconst (v := 1) hx hb dX5_count_30 (by decide) ?_
      refine lv_goto (tgt := 52) hx hb dX5_count_31 (by decide) ?_
      refine pu_R_f14 (v := (1 : Int32)) hx hb hts hi5 hown hK hP hD hS (hts (.fieldLink RX5 63 "InvaderBoardModel" "half" "I") (List.mem_cons_of_mem _ (List.mem_append_left _ (List.mem_append_left _ (List.mem_of_getElem? (i := 0) rfl))))) dX5_count_52 (fun H locs hP hD hS => ?_)
      refine lv_aload_n hx hb dX5_count_55 rfl (lv_at hl 1 rfl) ?_
      refine lv_iload_n hx hb dX5_count_56 rfl (lv_at hl 0 rfl) ?_
      refine KC.callv (ci := 5) (rest := []) (wt := wR cI o (rSigns (upd f 14 (1 : Int32)) (rSet f a p1 (((rGet f a p1) + p2) &&& (255 : Int32))) (((rGet f a p1) + p2) &&& (255 : Int32))) (rSet f a p1 (((rGet f a p1) + p2) &&& (255 : Int32)))) (kX5_signs l D cI o (upd f 14 (1 : Int32)) (rSet f a p1 (((rGet f a p1) + p2) &&& (255 : Int32))) (((rGet f a p1) + p2) &&& (255 : Int32))) (cwV 1 hts gX5_count_X5_signs rfl rfl rfl (by decide +kernel) ⟨Nat.le_of_ble_eq_true rfl, Nat.le_of_ble_eq_true rfl⟩) ⟨hx, hb, hml, hown, hts⟩ hK hP hD hS hA rfl rfl rfl [0, 1, 2, 3, 4, 5, 6] [] [0, 1, 2, 3, 4, 5, 6] (by decide) rfl (wr := []) rfl (by decide) (by decide) (by decide) rfl rfl hl.1 rfl (Nat.le_of_ble_eq_true rfl) dX5_count_57 ⟨Nat.zero_le _, Nat.zero_le _⟩ (fun H locs hP hD hS => ?_)
      have hF : rCount f a p1 p2 = (rSigns (upd f 14 (1 : Int32)) (rSet f a p1 (((rGet f a p1) + p2) &&& (255 : Int32))) (((rGet f a p1) + p2) &&& (255 : Int32)), rSet f a p1 (((rGet f a p1) + p2) &&& (255 : Int32))) := by
        unfold rCount
        refine (if_neg c_1).trans ?_
        refine (if_pos c_3).trans ?_
        rfl
      rw [hF]
      exact KC.retv hx hb hr hlocks hK hP hD hS dX5_count_60
