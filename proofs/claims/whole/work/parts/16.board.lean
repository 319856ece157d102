def xExecute (f : Nat → Int32) (a : Nat → Nat → Int32)  : Int32 × (Nat → Int32) × (Nat → Nat → Int32) :=
  (match xFetch f a with
  | (r_1, f_1) => if r_1 >>> ((6 : Int32) &&& 31) = (0 : Int32) then (match xExecuteLow f_1 a r_1 with
      | (f_3, a_3) => if f 3 = 0 then (xSt (r_1 &&& (255 : Int32)).toNatClampNeg, f_3, a_3)
        else if f_3 3 = 0 then (xSt (r_1 &&& (255 : Int32)).toNatClampNeg, f_3, a_3)
          else (xSt (r_1 &&& (255 : Int32)).toNatClampNeg, upd (upd f_3 2 (1 : Int32)) 3 (0 : Int32), a_3))
    else if r_1 >>> ((6 : Int32) &&& 31) = (1 : Int32) then (match xExecuteMove f_1 a r_1 with
        | (f_7, a_7) => if f 3 = 0 then (xSt (r_1 &&& (255 : Int32)).toNatClampNeg, f_7, a_7)
          else if f_7 3 = 0 then (xSt (r_1 &&& (255 : Int32)).toNatClampNeg, f_7, a_7)
            else (xSt (r_1 &&& (255 : Int32)).toNatClampNeg, upd (upd f_7 2 (1 : Int32)) 3 (0 : Int32), a_7))
      else if r_1 >>> ((6 : Int32) &&& 31) = (2 : Int32) then (match xCalculate f_1 a (r_1 >>> ((3 : Int32) &&& 31)) (xOperand f_1 a r_1) with
          | (f_11, a_11) => if f 3 = 0 then (xSt (r_1 &&& (255 : Int32)).toNatClampNeg, f_11, a_11)
            else if f_11 3 = 0 then (xSt (r_1 &&& (255 : Int32)).toNatClampNeg, f_11, a_11)
              else (xSt (r_1 &&& (255 : Int32)).toNatClampNeg, upd (upd f_11 2 (1 : Int32)) 3 (0 : Int32), a_11))
        else (match xExecuteHigh f_1 a r_1 with
          | (r_14, f_14, a_14) => if f 3 = 0 then ((xSt (r_1 &&& (255 : Int32)).toNatClampNeg) + r_14, f_14, a_14)
            else if f_14 3 = 0 then ((xSt (r_1 &&& (255 : Int32)).toNatClampNeg) + r_14, f_14, a_14)
              else ((xSt (r_1 &&& (255 : Int32)).toNatClampNeg) + r_14, upd (upd f_14 2 (1 : Int32)) 3 (0 : Int32), a_14)))
set_option maxHeartbeats 4000000 in
set_option maxRecDepth 100000 in
theorem kX3_execute (l : Launch) (D : va_G) (cI : ClassId) (o : Nat → Nat) (tS : Nat) (sc : Nat → Nat) (f : Nat → Int32) (a : Nat → Nat → Int32)  : KG l yX3_execute wsX3_execute 5 tS sc [.ref (o 0)] D cI (wP cI o f a) (wP cI o ((xExecute f a).2.1) ((xExecute f a).2.2)) (some (.int (xExecute f a).1)) := by
  refine KG.of (cc := cX3_execute) (maxL := 4) (by decide) rfl (Nat.le_of_ble_eq_true rfl) ?_
  intro p e s m below meth c A hx hb hr hts hown hlocks hml hK hP hD hS hA hG ls hl
  have hl : lv_has ls 4 [(0, .ref (o 0))] := hl
  have hown : s.vm.findClass RX3 = some m.cls := hown
  have hi3 : ∀ w ∈ u_ws RX3 TX3 9, w ∈ wsX3_execute := fun w h => List.mem_cons_of_mem _ (List.mem_append_left _ (List.mem_append_left _ (List.mem_append_right _ h)))
  refine lv_aload_n hx hb dX3_execute_0 rfl (lv_at hl 0 rfl) ?_
  refine va_get (ci := 3) (v := .int (f 3)) (C := RX3) (T := TX3) (N := 9) hx hb hts hi3 hown hK hP 0 rfl rfl 7 (by decide) (hts (.fieldLink RX3 35 "InvaderBoard$Processor" "enabling" "Z") (List.mem_cons_of_mem _ (List.mem_append_left _ (List.mem_append_left _ (List.mem_append_left _ (List.mem_append_left _ (List.mem_of_getElem? (i := 0) rfl))))))) (fun _ h9 => h9) rfl dX3_execute_1 ?_
  refine lv_istore_n (lv' := [(1, .int _), (0, .ref _)]) hx hb dX3_execute_4 rfl hl (by decide) rfl (fun ls hl => ?_)
  refine lv_aload_n hx hb dX3_execute_5 rfl (lv_at hl 1 rfl) ?_
  obtain ⟨r_1, f_1, hB_1⟩ := k_ex2 (xFetch f a)
  have kc_1 := kX3_fetch l D cI o f a
  rw [hB_1] at kc_1; dsimp only at kc_1
  refine KC.calli (ci := 3) (rest := []) (wt := wP cI o f_1 a) (kc_1) (cwV 0 hts gX3_execute_X3_fetch rfl rfl rfl (by decide +kernel) ⟨Nat.le_of_ble_eq_true rfl, Nat.le_of_ble_eq_true rfl⟩) ⟨hx, hb, hml, hown, hts⟩ hK hP hD hS hA rfl rfl rfl [0, 1, 2, 3, 4, 5, 6, 7, 8] [] [0, 1, 2, 3, 4, 5, 6, 7, 8] (by decide) rfl (wr := []) rfl (by decide) (by decide) (by decide) rfl rfl hl.1 rfl (Nat.le_of_ble_eq_true rfl) dX3_execute_6 ⟨Nat.zero_le _, Nat.zero_le _⟩ (fun H locs hP hD hS => ?_)
  refine lv_istore_n (lv' := [(2, .int _), (1, .int _), (0, .ref _)]) hx hb dX3_execute_9 rfl hl (by decide) rfl (fun ls hl => ?_)
  refine va_gets hx hb hG.1.1 hS hown (hts (.fieldLink RX3 49 "InvaderBoard$Processor" "STATES" "[I") (List.mem_cons_of_mem _ (List.mem_append_left _ (List.mem_append_left _ (List.mem_append_left _ (List.mem_append_left _ (List.mem_of_getElem? (i := 1) rfl))))))) (fun _ h9 => h9) dX3_execute_10 ?_
  refine lv_iload_n hx hb dX3_execute_13 rfl (lv_at hl 0 rfl) ?_
  refine lv_sipush (v := 255) hx hb dX3_execute_14 (by decide) ?_
  refine lv_iand hx hb dX3_execute_17 ?_
  refine va_ti (v := .int (xSt (r_1 &&& (255 : Int32)).toNatClampNeg)) hx hb hG.1.2 hS (pk_andIn _ 8 (by decide) (by decide)) rfl dX3_execute_18 ?_
  refine lv_istore_n (lv' := [(3, .int _), (2, .int _), (1, .int _), (0, .ref _)]) hx hb dX3_execute_19 rfl hl (by decide) rfl (fun ls hl => ?_)
  refine lv_iload_n hx hb dX3_execute_20 rfl (lv_at hl 1 rfl) ?_
  refine lv_bipush (v := 6) hx hb dX3_execute_21 (by decide) ?_
  refine lv_ishr hx hb dX3_execute_23 ?_
  by_cases c_2 : r_1 >>> ((6 : Int32) &&& 31) = (0 : Int32)
  · refine k_tin (tgt := 52) hx hb (0 : Int32) c_2 dX3_execute_24 (by decide) (by decide) rfl (by decide) ?_
    refine lv_aload_n hx hb dX3_execute_52 rfl (lv_at hl 3 rfl) ?_
    refine lv_iload_n hx hb dX3_execute_53 rfl (lv_at hl 1 rfl) ?_
    obtain ⟨f_3, a_3, hB_3⟩ := k_ex2 (xExecuteLow f_1 a r_1)
    have kc_3 := kX3_executeLow l D cI o f_1 a r_1
    rw [hB_3] at kc_3; dsimp only at kc_3
    refine KC.callv (ci := 3) (rest := []) (wt := wP cI o f_3 a_3) (kc_3) (cwV 1 hts gX3_execute_X3_executeLow rfl rfl rfl (by decide +kernel) ⟨Nat.le_of_ble_eq_true rfl, Nat.le_of_ble_eq_true rfl⟩) ⟨hx, hb, hml, hown, hts⟩ hK hP hD hS hA rfl rfl rfl [0, 1, 2, 3, 4, 5, 6, 7, 8] [] [0, 1, 2, 3, 4, 5, 6, 7, 8] (by decide) rfl (wr := []) rfl (by decide) (by decide) (by decide) rfl rfl hl.1 rfl (Nat.le_of_ble_eq_true rfl) dX3_execute_54 ⟨Nat.zero_le _, Nat.zero_le _⟩ (fun H locs hP hD hS => ?_)
    refine lv_goto (tgt := 91) hx hb dX3_execute_57 (by decide) ?_
    refine lv_iload_n hx hb dX3_execute_91 rfl (lv_at hl 2 rfl) ?_
    refine lv_if_eq (tgt := 112) hx hb dX3_execute_92 (by decide) (fun c_4 => ?_) (fun c_4 => ?_)
    · refine lv_iload_n hx hb dX3_execute_112 rfl (lv_at hl 0 rfl) ?_
      have hF : xExecute f a = (xSt (r_1 &&& (255 : Int32)).toNatClampNeg, f_3, a_3) := by
        unfold xExecute
        rewrite [hB_1]
        dsimp only
        refine (if_pos c_2).trans ?_
        rewrite [hB_3]
        dsimp only
        refine (if_pos c_4).trans ?_
        rfl
      rw [hF]
      exact KC.reti hx hb hr hlocks hK hP hD hS dX3_execute_113 rfl
    · refine lv_aload_n hx hb dX3_execute_95 rfl (lv_at hl 3 rfl) ?_
      refine va_get (ci := 3) (v := .int (f_3 3)) (C := RX3) (T := TX3) (N := 9) hx hb hts hi3 hown hK hP 0 rfl rfl 7 (by decide) (hts (.fieldLink RX3 35 "InvaderBoard$Processor" "enabling" "Z") (List.mem_cons_of_mem _ (List.mem_append_left _ (List.mem_append_left _ (List.mem_append_left _ (List.mem_append_left _ (List.mem_of_getElem? (i := 0) rfl))))))) (fun _ h9 => h9) rfl dX3_execute_96 ?_
      refine lv_if_eq (tgt := 112) hx hb dX3_execute_99 (by decide) (fun c_5 => ?_) (fun c_5 => ?_)
      · refine lv_iload_n hx hb dX3_execute_112 rfl (lv_at hl 0 rfl) ?_
        have hF : xExecute f a = (xSt (r_1 &&& (255 : Int32)).toNatClampNeg, f_3, a_3) := by
          unfold xExecute
          rewrite [hB_1]
          dsimp only
          refine (if_pos c_2).trans ?_
          rewrite [hB_3]
          dsimp only
          refine (if_neg c_4).trans ?_
          refine (if_pos c_5).trans ?_
          rfl
        rw [hF]
        exact KC.reti hx hb hr hlocks hK hP hD hS dX3_execute_113 rfl
      · refine lv_aload_n hx hb dX3_execute_102 rfl (lv_at hl 3 rfl) ?_
        refine lv_iconst (v := 1) hx hb dX3_execute_103 (by decide) ?_
        refine pu_P_f2 (v := (1 : Int32)) hx hb hts hi3 hown hK hP hD hS (hts (.fieldLink RX3 31 "InvaderBoard$Processor" "enabled" "Z") (List.mem_cons_of_mem _ (List.mem_append_left _ (List.mem_append_left _ (List.mem_append_left _ (List.mem_append_left _ (List.mem_of_getElem? (i := 2) rfl))))))) (by decide +kernel) (by decide +kernel) dX3_execute_104 (fun H locs hP hD hS => ?_)
        refine lv_aload_n hx hb dX3_execute_107 rfl (lv_at hl 3 rfl) ?_
        refine lv_iconst (v := 0) hx hb dX3_execute_108 (by decide) ?_
        refine pu_P_f3 (v := (0 : Int32)) hx hb hts hi3 hown hK hP hD hS (hts (.fieldLink RX3 35 "InvaderBoard$Processor" "enabling" "Z") (List.mem_cons_of_mem _ (List.mem_append_left _ (List.mem_append_left _ (List.mem_append_left _ (List.mem_append_left _ (List.mem_of_getElem? (i := 0) rfl))))))) (by decide +kernel) (by decide +kernel) dX3_execute_109 (fun H locs hP hD hS => ?_)
        refine lv_iload_n hx hb dX3_execute_112 rfl (lv_at hl 0 rfl) ?_
        have hF : xExecute f a = (xSt (r_1 &&& (255 : Int32)).toNatClampNeg, upd (upd f_3 2 (1 : Int32)) 3 (0 : Int32), a_3) := by
          unfold xExecute
          rewrite [hB_1]
          dsimp only
          refine (if_pos c_2).trans ?_
          rewrite [hB_3]
          dsimp only
          refine (if_neg c_4).trans ?_
          refine (if_neg c_5).trans ?_
          rfl
        rw [hF]
        exact KC.reti hx hb hr hlocks hK hP hD hS dX3_execute_113 rfl
  by_cases c_6 : r_1 >>> ((6 : Int32) &&& 31) = (1 : Int32)
  · refine k_tin (tgt := 60) hx hb (1 : Int32) c_6 dX3_execute_24 (by decide) (by decide) rfl (by decide) ?_
    refine lv_aload_n hx hb dX3_execute_60 rfl (lv_at hl 3 rfl) ?_
    refine lv_iload_n hx hb dX3_execute_61 rfl (lv_at hl 1 rfl) ?_
    obtain ⟨f_7, a_7, hB_7⟩ := k_ex2 (xExecuteMove f_1 a r_1)
    have kc_7 := kX3_executeMove l D cI o f_1 a r_1
    rw [hB_7] at kc_7; dsimp only at kc_7
    refine KC.callv (ci := 3) (rest := []) (wt := wP cI o f_7 a_7) (kc_7) (cwV 1 hts gX3_execute_X3_executeMove rfl rfl rfl (by decide +kernel) ⟨Nat.le_of_ble_eq_true rfl, Nat.le_of_ble_eq_true rfl⟩) ⟨hx, hb, hml, hown, hts⟩ hK hP hD hS hA rfl rfl rfl [0, 1, 2, 3, 4, 5, 6, 7, 8] [] [0, 1, 2, 3, 4, 5, 6, 7, 8] (by decide) rfl (wr := []) rfl (by decide) (by decide) (by decide) rfl rfl hl.1 rfl (Nat.le_of_ble_eq_true rfl) dX3_execute_62 ⟨Nat.zero_le _, Nat.zero_le _⟩ (fun H locs hP hD hS => ?_)
    refine lv_goto (tgt := 91) hx hb dX3_execute_65 (by decide) ?_
    refine lv_iload_n hx hb dX3_execute_91 rfl (lv_at hl 2 rfl) ?_
    refine lv_if_eq (tgt := 112) hx hb dX3_execute_92 (by decide) (fun c_8 => ?_) (fun c_8 => ?_)
    · refine lv_iload_n hx hb dX3_execute_112 rfl (lv_at hl 0 rfl) ?_
      have hF : xExecute f a = (xSt (r_1 &&& (255 : Int32)).toNatClampNeg, f_7, a_7) := by
        unfold xExecute
        rewrite [hB_1]
        dsimp only
        refine (if_neg c_2).trans ?_
        refine (if_pos c_6).trans ?_
        rewrite [hB_7]
        dsimp only
        refine (if_pos c_8).trans ?_
        rfl
      rw [hF]
      exact KC.reti hx hb hr hlocks hK hP hD hS dX3_execute_113 rfl
    · refine lv_aload_n hx hb dX3_execute_95 rfl (lv_at hl 3 rfl) ?_
      refine va_get (ci := 3) (v := .int (f_7 3)) (C := RX3) (T := TX3) (N := 9) hx hb hts hi3 hown hK hP 0 rfl rfl 7 (by decide) (hts (.fieldLink RX3 35 "InvaderBoard$Processor" "enabling" "Z") (List.mem_cons_of_mem _ (List.mem_append_left _ (List.mem_append_left _ (List.mem_append_left _ (List.mem_append_left _ (List.mem_of_getElem? (i := 0) rfl))))))) (fun _ h9 => h9) rfl dX3_execute_96 ?_
      refine lv_if_eq (tgt := 112) hx hb dX3_execute_99 (by decide) (fun c_9 => ?_) (fun c_9 => ?_)
      · refine lv_iload_n hx hb dX3_execute_112 rfl (lv_at hl 0 rfl) ?_
        have hF : xExecute f a = (xSt (r_1 &&& (255 : Int32)).toNatClampNeg, f_7, a_7) := by
          unfold xExecute
          rewrite [hB_1]
          dsimp only
          refine (if_neg c_2).trans ?_
          refine (if_pos c_6).trans ?_
          rewrite [hB_7]
          dsimp only
          refine (if_neg c_8).trans ?_
          refine (if_pos c_9).trans ?_
          rfl
        rw [hF]
        exact KC.reti hx hb hr hlocks hK hP hD hS dX3_execute_113 rfl
      · refine lv_aload_n hx hb dX3_execute_102 rfl (lv_at hl 3 rfl) ?_
        refine lv_iconst (v := 1) hx hb dX3_execute_103 (by decide) ?_
        refine pu_P_f2 (v := (1 : Int32)) hx hb hts hi3 hown hK hP hD hS (hts (.fieldLink RX3 31 "InvaderBoard$Processor" "enabled" "Z") (List.mem_cons_of_mem _ (List.mem_append_left _ (List.mem_append_left _ (List.mem_append_left _ (List.mem_append_left _ (List.mem_of_getElem? (i := 2) rfl))))))) (by decide +kernel) (by decide +kernel) dX3_execute_104 (fun H locs hP hD hS => ?_)
        refine lv_aload_n hx hb dX3_execute_107 rfl (lv_at hl 3 rfl) ?_
        refine lv_iconst (v := 0) hx hb dX3_execute_108 (by decide) ?_
        refine pu_P_f3 (v := (0 : Int32)) hx hb hts hi3 hown hK hP hD hS (hts (.fieldLink RX3 35 "InvaderBoard$Processor" "enabling" "Z") (List.mem_cons_of_mem _ (List.mem_append_left _ (List.mem_append_left _ (List.mem_append_left _ (List.mem_append_left _ (List.mem_of_getElem? (i := 0) rfl))))))) (by decide +kernel) (by decide +kernel) dX3_execute_109 (fun H locs hP hD hS => ?_)
        refine lv_iload_n hx hb dX3_execute_112 rfl (lv_at hl 0 rfl) ?_
        have hF : xExecute f a = (xSt (r_1 &&& (255 : Int32)).toNatClampNeg, upd (upd f_7 2 (1 : Int32)) 3 (0 : Int32), a_7) := by
          unfold xExecute
          rewrite [hB_1]
          dsimp only
          refine (if_neg c_2).trans ?_
          refine (if_pos c_6).trans ?_
          rewrite [hB_7]
          dsimp only
          refine (if_neg c_8).trans ?_
          refine (if_neg c_9).trans ?_
          rfl
        rw [hF]
        exact KC.reti hx hb hr hlocks hK hP hD hS dX3_execute_113 rfl
  by_cases c_10 : r_1 >>> ((6 : Int32) &&& 31) = (2 : Int32)
  · refine k_tin (tgt := 68) hx hb (2 : Int32) c_10 dX3_execute_24 (by decide) (by decide) rfl (by decide) ?_
    refine lv_aload_n hx hb dX3_execute_68 rfl (lv_at hl 3 rfl) ?_
    refine lv_iload_n hx hb dX3_execute_69 rfl (lv_at hl 1 rfl) ?_
    refine lv_iconst (v := 3) hx hb dX3_execute_70 (by decide) ?_
    refine lv_ishr hx hb dX3_execute_71 ?_
    refine lv_aload_n hx hb dX3_execute_72 rfl (lv_at hl 3 rfl) ?_
    refine lv_iload_n hx hb dX3_execute_73 rfl (lv_at hl 1 rfl) ?_
    refine KC.calli (ci := 3) (rest := [.int (r_1 >>> ((3 : Int32) &&& 31)), .ref (o 0)]) (wt := wP cI o f_1 a) (kX3_operand l D cI o f_1 a r_1) (cwV 1 hts gX3_execute_X3_operand rfl rfl rfl (by decide +kernel) ⟨Nat.le_of_ble_eq_true rfl, Nat.le_of_ble_eq_true rfl⟩) ⟨hx, hb, hml, hown, hts⟩ hK hP hD hS hA rfl rfl rfl [0, 1, 2, 3, 4, 5, 6, 7, 8] [] [0, 1, 2, 3, 4, 5, 6, 7, 8] (by decide) rfl (wr := []) rfl (by decide) (by decide) (by decide) rfl rfl hl.1 rfl (Nat.le_of_ble_eq_true rfl) dX3_execute_74 ⟨Nat.zero_le _, Nat.zero_le _⟩ (fun H locs hP hD hS => ?_)
    obtain ⟨f_11, a_11, hB_11⟩ := k_ex2 (xCalculate f_1 a (r_1 >>> ((3 : Int32) &&& 31)) (xOperand f_1 a r_1))
    have kc_11 := kX3_calculate l D cI o f_1 a (r_1 >>> ((3 : Int32) &&& 31)) (xOperand f_1 a r_1)
    rw [hB_11] at kc_11; dsimp only at kc_11
    refine KC.callv (ci := 3) (rest := []) (wt := wP cI o f_11 a_11) (kc_11) (cwV 2 hts gX3_execute_X3_calculate rfl rfl rfl (by decide +kernel) ⟨Nat.le_of_ble_eq_true rfl, Nat.le_of_ble_eq_true rfl⟩) ⟨hx, hb, hml, hown, hts⟩ hK hP hD hS hA rfl rfl rfl [0, 1, 2, 3, 4, 5, 6, 7, 8] [] [0, 1, 2, 3, 4, 5, 6, 7, 8] (by decide) rfl (wr := []) rfl (by decide) (by decide) (by decide) rfl rfl hl.1 rfl (Nat.le_of_ble_eq_true rfl) dX3_execute_77 ⟨Nat.zero_le _, Nat.zero_le _⟩ (fun H locs hP hD hS => ?_)
    refine lv_goto (tgt := 91) hx hb dX3_execute_80 (by decide) ?_
    refine lv_iload_n hx hb dX3_execute_91 rfl (lv_at hl 2 rfl) ?_
    refine lv_if_eq (tgt := 112) hx hb dX3_execute_92 (by decide) (fun c_12 => ?_) (fun c_12 => ?_)
    · refine lv_iload_n hx hb dX3_execute_112 rfl (lv_at hl 0 rfl) ?_
      have hF : xExecute f a = (xSt (r_1 &&& (255 : Int32)).toNatClampNeg, f_11, a_11) := by
        unfold xExecute
        rewrite [hB_1]
        dsimp only
        refine (if_neg c_2).trans ?_
        refine (if_neg c_6).trans ?_
        refine (if_pos c_10).trans ?_
        rewrite [hB_11]
        dsimp only
        refine (if_pos c_12).trans ?_
        rfl
      rw [hF]
      exact KC.reti hx hb hr hlocks hK hP hD hS dX3_execute_113 rfl
    · refine lv_aload_n hx hb dX3_execute_95 rfl (lv_at hl 3 rfl) ?_
      refine va_get (ci := 3) (v := .int (f_11 3)) (C := RX3) (T := TX3) (N := 9) hx hb hts hi3 hown hK hP 0 rfl rfl 7 (by decide) (hts (.fieldLink RX3 35 "InvaderBoard$Processor" "enabling" "Z") (List.mem_cons_of_mem _ (List.mem_append_left _ (List.mem_append_left _ (List.mem_append_left _ (List.mem_append_left _ (List.mem_of_getElem? (i := 0) rfl))))))) (fun _ h9 => h9) rfl dX3_execute_96 ?_
      refine lv_if_eq (tgt := 112) hx hb dX3_execute_99 (by decide) (fun c_13 => ?_) (fun c_13 => ?_)
      · refine lv_iload_n hx hb dX3_execute_112 rfl (lv_at hl 0 rfl) ?_
        have hF : xExecute f a = (xSt (r_1 &&& (255 : Int32)).toNatClampNeg, f_11, a_11) := by
          unfold xExecute
          rewrite [hB_1]
          dsimp only
          refine (if_neg c_2).trans ?_
          refine (if_neg c_6).trans ?_
          refine (if_pos c_10).trans ?_
          rewrite [hB_11]
          dsimp only
          refine (if_neg c_12).trans ?_
          refine (if_pos c_13).trans ?_
          rfl
        rw [hF]
        exact KC.reti hx hb hr hlocks hK hP hD hS dX3_execute_113 rfl
      · refine lv_aload_n hx hb dX3_execute_102 rfl (lv_at hl 3 rfl) ?_
        refine lv_iconst (v := 1) hx hb dX3_execute_103 (by decide) ?_
        refine pu_P_f2 (v := (1 : Int32)) hx hb hts hi3 hown hK hP hD hS (hts (.fieldLink RX3 31 "InvaderBoard$Processor" "enabled" "Z") (List.mem_cons_of_mem _ (List.mem_append_left _ (List.mem_append_left _ (List.mem_append_left _ (List.mem_append_left _ (List.mem_of_getElem? (i := 2) rfl))))))) (by decide +kernel) (by decide +kernel) dX3_execute_104 (fun H locs hP hD hS => ?_)
        refine lv_aload_n hx hb dX3_execute_107 rfl (lv_at hl 3 rfl) ?_
        refine lv_iconst (v := 0) hx hb dX3_execute_108 (by decide) ?_
        refine pu_P_f3 (v := (0 : Int32)) hx hb hts hi3 hown hK hP hD hS (hts (.fieldLink RX3 35 "InvaderBoard$Processor" "enabling" "Z") (List.mem_cons_of_mem _ (List.mem_append_left _ (List.mem_append_left _ (List.mem_append_left _ (List.mem_append_left _ (List.mem_of_getElem? (i := 0) rfl))))))) (by decide +kernel) (by decide +kernel) dX3_execute_109 (fun H locs hP hD hS => ?_)
        refine lv_iload_n hx hb dX3_execute_112 rfl (lv_at hl 0 rfl) ?_
        have hF : xExecute f a = (xSt (r_1 &&& (255 : Int32)).toNatClampNeg, upd (upd f_11 2 (1 : Int32)) 3 (0 : Int32), a_11) := by
          unfold xExecute
          rewrite [hB_1]
          dsimp only
          refine (if_neg c_2).trans ?_
          refine (if_neg c_6).trans ?_
          refine (if_pos c_10).trans ?_
          rewrite [hB_11]
          dsimp only
          refine (if_neg c_12).trans ?_
          refine (if_neg c_13).trans ?_
          rfl
        rw [hF]
        exact KC.reti hx hb hr hlocks hK hP hD hS dX3_execute_113 rfl
  refine lv_tableOut (tgt := 83) hx hb dX3_execute_24 (by have := lv_neT c_2 (k := (0 : Int32)) (a := 0) (by decide); have := lv_neT c_6 (k := (1 : Int32)) (a := 1) (by decide); have := lv_neT c_10 (k := (2 : Int32)) (a := 2) (by decide); omega) (by decide) ?_
  refine lv_iload_n hx hb dX3_execute_83 rfl (lv_at hl 0 rfl) ?_
  refine lv_aload_n hx hb dX3_execute_84 rfl (lv_at hl 3 rfl) ?_
  refine lv_iload_n hx hb dX3_execute_85 rfl (lv_at hl 1 rfl) ?_
  obtain ⟨r_14, f_14, a_14, hB_14⟩ := k_ex3 (xExecuteHigh f_1 a r_1)
  have kc_14 := kX3_executeHigh l D cI o f_1 a r_1
  rw [hB_14] at kc_14; dsimp only at kc_14
  refine KC.calli (ci := 3) (rest := [.int (xSt (r_1 &&& (255 : Int32)).toNatClampNeg)]) (wt := wP cI o f_14 a_14) (kc_14) (cwV 1 hts gX3_execute_X3_executeHigh rfl rfl rfl (by decide +kernel) ⟨Nat.le_of_ble_eq_true rfl, Nat.le_of_ble_eq_true rfl⟩) ⟨hx, hb, hml, hown, hts⟩ hK hP hD hS hA rfl rfl rfl [0, 1, 2, 3, 4, 5, 6, 7, 8] [] [0, 1, 2, 3, 4, 5, 6, 7, 8] (by decide) rfl (wr := []) rfl (by decide) (by decide) (by decide) rfl rfl hl.1 rfl (Nat.le_of_ble_eq_true rfl) dX3_execute_86 ⟨Nat.zero_le _, Nat.zero_le _⟩ (fun H locs hP hD hS => ?_)
  refine lv_iadd hx hb dX3_execute_89 ?_
  refine lv_istore_n (lv' := [(3, .int _), (2, .int _), (1, .int _), (0, .ref _)]) hx hb dX3_execute_90 rfl hl (by decide) rfl (fun ls hl => ?_)
  refine lv_iload_n hx hb dX3_execute_91 rfl (lv_at hl 2 rfl) ?_
  refine lv_if_eq (tgt := 112) hx hb dX3_execute_92 (by decide) (fun c_15 => ?_) (fun c_15 => ?_)
  · refine lv_iload_n hx hb dX3_execute_112 rfl (lv_at hl 0 rfl) ?_
    have hF : xExecute f a = ((xSt (r_1 &&& (255 : Int32)).toNatClampNeg) + r_14, f_14, a_14) := by
      unfold xExecute
      rewrite [hB_1]
      dsimp only
      refine (if_neg c_2).trans ?_
      refine (if_neg c_6).trans ?_
      refine (if_neg c_10).trans ?_
      rewrite [hB_14]
      dsimp only
      refine (if_pos c_15).trans ?_
      rfl
    rw [hF]
    exact KC.reti hx hb hr hlocks hK hP hD hS dX3_execute_113 rfl
  · refine lv_aload_n hx hb dX3_execute_95 rfl (lv_at hl 3 rfl) ?_
    refine va_get (ci := 3) (v := .int (f_14 3)) (C := RX3) (T := TX3) (N := 9) hx hb hts hi3 hown hK hP 0 rfl rfl 7 (by decide) (hts (.fieldLink RX3 35 "InvaderBoard$Processor" "enabling" "Z") (List.mem_cons_of_mem _ (List.mem_append_left _ (List.mem_append_left _ (List.mem_append_left _ (List.mem_append_left _ (List.mem_of_getElem? (i := 0) rfl))))))) (fun _ h9 => h9) rfl dX3_execute_96 ?_
    refine lv_if_eq (tgt := 112) hx hb dX3_execute_99 (by decide) (fun c_16 => ?_) (fun c_16 => ?_)
    · refine lv_iload_n hx hb dX3_execute_112 rfl (lv_at hl 0 rfl) ?_
      have hF : xExecute f a = ((xSt (r_1 &&& (255 : Int32)).toNatClampNeg) + r_14, f_14, a_14) := by
        unfold xExecute
        rewrite [hB_1]
        dsimp only
        refine (if_neg c_2).trans ?_
        refine (if_neg c_6).trans ?_
        refine (if_neg c_10).trans ?_
        rewrite [hB_14]
        dsimp only
        refine (if_neg c_15).trans ?_
        refine (if_pos c_16).trans ?_
        rfl
      rw [hF]
      exact KC.reti hx hb hr hlocks hK hP hD hS dX3_execute_113 rfl
    · refine lv_aload_n hx hb dX3_execute_102 rfl (lv_at hl 3 rfl) ?_
      refine lv_iconst (v := 1) hx hb dX3_execute_103 (by decide) ?_
      refine pu_P_f2 (v := (1 : Int32)) hx hb hts hi3 hown hK hP hD hS (hts (.fieldLink RX3 31 "InvaderBoard$Processor" "enabled" "Z") (List.mem_cons_of_mem _ (List.mem_append_left _ (List.mem_append_left _ (List.mem_append_left _ (List.mem_append_left _ (List.mem_of_getElem? (i := 2) rfl))))))) (by decide +kernel) (by decide +kernel) dX3_execute_104 (fun H locs hP hD hS => ?_)
      refine lv_aload_n hx hb dX3_execute_107 rfl (lv_at hl 3 rfl) ?_
      refine lv_iconst (v := 0) hx hb dX3_execute_108 (by decide) ?_
      refine pu_P_f3 (v := (0 : Int32)) hx hb hts hi3 hown hK hP hD hS (hts (.fieldLink RX3 35 "InvaderBoard$Processor" "enabling" "Z") (List.mem_cons_of_mem _ (List.mem_append_left _ (List.mem_append_left _ (List.mem_append_left _ (List.mem_append_left _ (List.mem_of_getElem? (i := 0) rfl))))))) (by decide +kernel) (by decide +kernel) dX3_execute_109 (fun H locs hP hD hS => ?_)
      refine lv_iload_n hx hb dX3_execute_112 rfl (lv_at hl 0 rfl) ?_
      have hF : xExecute f a = ((xSt (r_1 &&& (255 : Int32)).toNatClampNeg) + r_14, upd (upd f_14 2 (1 : Int32)) 3 (0 : Int32), a_14) := by
        unfold xExecute
        rewrite [hB_1]
        dsimp only
        refine (if_neg c_2).trans ?_
        refine (if_neg c_6).trans ?_
        refine (if_neg c_10).trans ?_
        rewrite [hB_14]
        dsimp only
        refine (if_neg c_15).trans ?_
        refine (if_neg c_16).trans ?_
        rfl
      rw [hF]
      exact KC.reti hx hb hr hlocks hK hP hD hS dX3_execute_113 rfl
def xResetParts (g : Nat → Int32) (f : Nat → Int32) (a : Nat → Nat → Int32)  : (Nat → Int32) × (Nat → Int32) × (Nat → Nat → Int32) :=
  (match xProcClear f a with
  | (f_1, a_1) => (match xPortsClear f_1 a_1 with
    | (f5_2, f6_2, f7_2, a4_2) => (xDropWaiting g, upd (upd (upd f_1 5 f5_2) 6 f6_2) 7 f7_2, ua a_1 4 a4_2)))
set_option maxHeartbeats 4000000 in
set_option maxRecDepth 100000 in
theorem kX4_resetParts (l : Launch) (D : va_G) (cI : ClassId) (o : Nat → Nat) (g : Nat → Int32) (f : Nat → Int32) (a : Nat → Nat → Int32)  : KC l yX4_resetParts wsX4_resetParts 1 [.ref (o 10)] D cI (wX cI o g f a) (wX cI o ((xResetParts g f a).1) ((xResetParts g f a).2.1) ((xResetParts g f a).2.2)) none := by
  refine KC.of (cc := cX4_resetParts) (maxL := 1) (by decide) rfl (Nat.le_of_ble_eq_true rfl) ?_
  intro p e s m below meth c A hx hb hr hts hown hlocks hml hK hP hD hS hA ls hl
  have hl : lv_has ls 1 [(0, .ref (o 10))] := hl
  have hown : s.vm.findClass RX4 = some m.cls := hown
  have hi4 : ∀ w ∈ u_ws RX4 TX4 4, w ∈ wsX4_resetParts := fun w h => List.mem_cons_of_mem _ (List.mem_append_left _ (List.mem_append_left _ (List.mem_append_left _ (List.mem_append_right _ h))))
  refine lv_aload_n hx hb dX4_resetParts_0 rfl (lv_at hl 0 rfl) ?_
  refine va_get (ci := 4) (v := .ref (o 0)) (C := RX4) (T := TX4) (N := 4) hx hb hts hi4 hown hK hP 0 rfl rfl 2 (by decide) (hts (.fieldLink RX4 28 "InvaderBoard" "processor" "LInvaderBoard$Processor;") (List.mem_cons_of_mem _ (List.mem_append_left _ (List.mem_append_left _ (List.mem_append_left _ (List.mem_append_left _ (List.mem_append_left _ (List.mem_of_getElem? (i := 0) rfl)))))))) (fun _ h9 => h9) rfl dX4_resetParts_1 ?_
  obtain ⟨f_1, a_1, hB_1⟩ := k_ex2 (xProcClear f a)
  have kc_1 := kX3_clear l D cI o f a
  rw [hB_1] at kc_1; dsimp only at kc_1
  refine KC.callv (ci := 3) (rest := []) (wt := wX cI o g f_1 a_1) (kc_1) (cwV 0 hts gX4_resetParts_X3_clear rfl rfl rfl (by decide +kernel) ⟨Nat.le_of_ble_eq_true rfl, Nat.le_of_ble_eq_true rfl⟩) ⟨hx, hb, hml, hown, hts⟩ hK hP hD hS hA rfl rfl rfl [2, 3, 4, 5, 6, 7, 8, 9, 10] [0, 1] [0, 1, 2, 3, 4, 5, 6, 7, 8, 9, 10] (by decide) rfl (wr := [_, _]) rfl (by decide) (by decide) (by decide) rfl rfl hl.1 rfl (Nat.le_of_ble_eq_true rfl) dX4_resetParts_4 ⟨Nat.zero_le _, Nat.zero_le _⟩ (fun H locs hP hD hS => ?_)
  refine lv_aload_n hx hb dX4_resetParts_7 rfl (lv_at hl 0 rfl) ?_
  refine va_get (ci := 4) (v := .ref (o 5)) (C := RX4) (T := TX4) (N := 4) hx hb hts hi4 hown hK hP 0 rfl rfl 1 (by decide) (hts (.fieldLink RX4 19 "InvaderBoard" "ports" "LInvaderBoard$Ports;") (List.mem_cons_of_mem _ (List.mem_append_left _ (List.mem_append_left _ (List.mem_append_left _ (List.mem_append_left _ (List.mem_append_left _ (List.mem_of_getElem? (i := 1) rfl)))))))) (fun _ h9 => h9) rfl dX4_resetParts_8 ?_
  obtain ⟨f5_2, f6_2, f7_2, a4_2, hB_2⟩ := k_ex4 (xPortsClear f_1 a_1)
  have kc_2 := kX2_clear l D cI o f_1 a_1
  rw [hB_2] at kc_2; dsimp only at kc_2
  refine KC.callv (ci := 2) (rest := []) (wt := wX cI o g (upd (upd (upd f_1 5 f5_2) 6 f6_2) 7 f7_2) (ua a_1 4 a4_2)) (kc_2) (cwV 0 hts gX4_resetParts_X2_clear rfl rfl rfl (by decide +kernel) ⟨Nat.le_of_ble_eq_true rfl, Nat.le_of_ble_eq_true rfl⟩) ⟨hx, hb, hml, hown, hts⟩ hK hP hD hS hA rfl rfl rfl [7, 8, 9, 10] [0, 1, 2, 3, 4, 5, 6] [0, 1, 2, 3, 4, 5, 6, 7, 8, 9, 10] (by decide) rfl (wr := [_, _, _, _, _, _, _]) rfl (by decide) (by decide) (by decide) rfl rfl hl.1 rfl (Nat.le_of_ble_eq_true rfl) dX4_resetParts_11 ⟨Nat.zero_le _, Nat.zero_le _⟩ (fun H locs hP hD hS => ?_)
  refine lv_aload_n hx hb dX4_resetParts_14 rfl (lv_at hl 0 rfl) ?_
  refine va_get (ci := 4) (v := .ref (o 9)) (C := RX4) (T := TX4) (N := 4) hx hb hts hi4 hown hK hP 0 rfl rfl 3 (by decide) (hts (.fieldLink RX4 35 "InvaderBoard" "frames" "LInvaderBoard$Frames;") (List.mem_cons_of_mem _ (List.mem_append_left _ (List.mem_append_left _ (List.mem_append_left _ (List.mem_append_left _ (List.mem_append_left _ (List.mem_of_getElem? (i := 2) rfl)))))))) (fun _ h9 => h9) rfl dX4_resetParts_15 ?_
  refine KC.callv (ci := 0) (rest := []) (wt := wX cI o (xDropWaiting g) (upd (upd (upd f_1 5 f5_2) 6 f6_2) 7 f7_2) (ua a_1 4 a4_2)) (kX0_dropWaiting l D cI o g) (cwV 0 hts gX4_resetParts_X0_dropWaiting rfl rfl rfl (by decide +kernel) ⟨Nat.le_of_ble_eq_true rfl, Nat.le_of_ble_eq_true rfl⟩) ⟨hx, hb, hml, hown, hts⟩ hK hP hD hS hA rfl rfl rfl [1] [0, 2, 3, 4, 5, 6, 7, 8, 9, 10] [0, 10, 1, 2, 3, 4, 5, 6, 7, 8, 9] (by decide) rfl (wr := [_, _, _, _, _, _, _, _, _, _]) rfl (by decide) (by decide) (by decide) rfl rfl hl.1 rfl (Nat.le_of_ble_eq_true rfl) dX4_resetParts_18 ⟨Nat.zero_le _, Nat.zero_le _⟩ (fun H locs hP hD hS => ?_)
  have hF : xResetParts g f a = (xDropWaiting g, upd (upd (upd f_1 5 f5_2) 6 f6_2) 7 f7_2, ua a_1 4 a4_2) := by
    unfold xResetParts
    rewrite [hB_1]
    dsimp only
    rewrite [hB_2]
    rfl
  rw [hF]
  exact KC.retv hx hb hr hlocks hK hP hD hS dX4_resetParts_21
def xAdvance (g : Nat → Int32) (f : Nat → Int32) (a : Nat → Nat → Int32) (p1 : Int32) : Int32 × (Nat → Int32) × (Nat → Int32) × (Nat → Nat → Int32) :=
  if f 2 = 0 then if f 4 = 0 then (match xExecute f a with
      | (r_3, f_3, a_3) => (match xPass g r_3 with
        | (r_4, g_4) => if r_4 = 0 then (r_3, g_4, f_3, a_3)
          else (match xEndFrame f_3 a_3 with
            | (r_6, f7_6) => if r_6 = 0 then (r_3, g_4, upd f_3 7 f7_6, a_3)
              else (match xResetParts g_4 (upd f_3 7 f7_6) a_3 with
                | (g_8, f_8, a_8) => (r_3, g_8, f_8, a_8)))))
    else (match xPass g (if (xUntil g) < p1 then xUntil g else p1) with
      | (r_9, g_9) => if r_9 = 0 then ((if (xUntil g) < p1 then xUntil g else p1), g_9, f, a)
        else (match xEndFrame f a with
          | (r_11, f7_11) => if r_11 = 0 then ((if (xUntil g) < p1 then xUntil g else p1), g_9, upd f 7 f7_11, a)
            else (match xResetParts g_9 (upd f 7 f7_11) a with
              | (g_13, f_13, a_13) => ((if (xUntil g) < p1 then xUntil g else p1), g_13, f_13, a_13))))
  else if g 10 = 0 then if f 4 = 0 then (match xExecute f a with
        | (r_16, f_16, a_16) => (match xPass g r_16 with
          | (r_17, g_17) => if r_17 = 0 then (r_16, g_17, f_16, a_16)
            else (match xEndFrame f_16 a_16 with
              | (r_19, f7_19) => if r_19 = 0 then (r_16, g_17, upd f_16 7 f7_19, a_16)
                else (match xResetParts g_17 (upd f_16 7 f7_19) a_16 with
                  | (g_21, f_21, a_21) => (r_16, g_21, f_21, a_21)))))
      else (match xPass g (if (xUntil g) < p1 then xUntil g else p1) with
        | (r_22, g_22) => if r_22 = 0 then ((if (xUntil g) < p1 then xUntil g else p1), g_22, f, a)
          else (match xEndFrame f a with
            | (r_24, f7_24) => if r_24 = 0 then ((if (xUntil g) < p1 then xUntil g else p1), g_22, upd f 7 f7_24, a)
              else (match xResetParts g_22 (upd f 7 f7_24) a with
                | (g_26, f_26, a_26) => ((if (xUntil g) < p1 then xUntil g else p1), g_26, f_26, a_26))))
    else (match xTakeWaiting g with
      | (r_27, g_27) => (match xTakeRequest f a r_27 with
        | (r_28, f_28, a_28) => (match xPass g_27 r_28 with
          | (r_29, g_29) => if r_29 = 0 then (r_28, g_29, f_28, a_28)
            else (match xEndFrame f_28 a_28 with
              | (r_31, f7_31) => if r_31 = 0 then (r_28, g_29, upd f_28 7 f7_31, a_28)
                else (match xResetParts g_29 (upd f_28 7 f7_31) a_28 with
                  | (g_33, f_33, a_33) => (r_28, g_33, f_33, a_33))))))
set_option maxHeartbeats 4000000 in
set_option maxRecDepth 100000 in
theorem kX4_advance (l : Launch) (D : va_G) (cI : ClassId) (o : Nat → Nat) (tS : Nat) (sc : Nat → Nat) (g : Nat → Int32) (f : Nat → Int32) (a : Nat → Nat → Int32) (p1 : Int32) : KG l yX4_advance wsX4_advance 6 tS sc [.ref (o 10), .int p1] D cI (wX cI o g f a) (wX cI o ((xAdvance g f a p1).2.1) ((xAdvance g f a p1).2.2.1) ((xAdvance g f a p1).2.2.2)) (some (.int (xAdvance g f a p1).1)) := by
  refine KG.of (cc := cX4_advance) (maxL := 3) (by decide) rfl (Nat.le_of_ble_eq_true rfl) ?_
  intro p e s m below meth c A hx hb hr hts hown hlocks hml hK hP hD hS hA hG ls hl
  obtain ⟨hn97, hn101, hn104, hn107, hn121, hn131⟩ := hG.2.2.1
  have hl : lv_has ls 3 [(0, .ref (o 10)), (1, .int p1)] := hl
  have hown : s.vm.findClass RX4 = some m.cls := hown
  have hi0 : ∀ w ∈ u_ws RX0 TX0 3, w ∈ wsX4_advance := fun w h => List.mem_cons_of_mem _ (List.mem_append_left _ (List.mem_append_left _ (List.mem_append_right _ h)))
  have hi3 : ∀ w ∈ u_ws RX3 TX3 9, w ∈ wsX4_advance := fun w h => List.mem_cons_of_mem _ (List.mem_append_left _ (List.mem_append_left _ (List.mem_append_left _ (List.mem_append_right _ h))))
  have hi4 : ∀ w ∈ u_ws RX4 TX4 4, w ∈ wsX4_advance := fun w h => List.mem_cons_of_mem _ (List.mem_append_left _ (List.mem_append_left _ (List.mem_append_left _ (List.mem_append_left _ (List.mem_append_right _ h)))))
  refine lv_aload_n hx hb dX4_advance_0 rfl (lv_at hl 0 rfl) ?_
  refine va_get (ci := 4) (v := .ref (o 0)) (C := RX4) (T := TX4) (N := 4) hx hb hts hi4 hown hK hP 0 rfl rfl 2 (by decide) (hts (.fieldLink RX4 28 "InvaderBoard" "processor" "LInvaderBoard$Processor;") (List.mem_cons_of_mem _ (List.mem_append_left _ (List.mem_append_left _ (List.mem_append_left _ (List.mem_append_left _ (List.mem_append_left _ (List.mem_append_left _ (List.mem_of_getElem? (i := 0) rfl))))))))) (fun _ h9 => h9) rfl dX4_advance_1 ?_
  refine va_getN (ci := 3) (v := .int (f 2)) (C := RX3) (T := TX3) (N := 9) (own := RX4) hx hb hts hi3 hown hK hP 2 rfl rfl 6 (by decide) (va_Nw.use rfl hn121) (fun _ h9 => h9) rfl dX4_advance_4 ?_
  refine lv_if_eq (tgt := 38) hx hb dX4_advance_7 (by decide) (fun c_1 => ?_) (fun c_1 => ?_)
  · refine lv_aload_n hx hb dX4_advance_38 rfl (lv_at hl 0 rfl) ?_
    refine va_get (ci := 4) (v := .ref (o 0)) (C := RX4) (T := TX4) (N := 4) hx hb hts hi4 hown hK hP 0 rfl rfl 2 (by decide) (hts (.fieldLink RX4 28 "InvaderBoard" "processor" "LInvaderBoard$Processor;") (List.mem_cons_of_mem _ (List.mem_append_left _ (List.mem_append_left _ (List.mem_append_left _ (List.mem_append_left _ (List.mem_append_left _ (List.mem_append_left _ (List.mem_of_getElem? (i := 0) rfl))))))))) (fun _ h9 => h9) rfl dX4_advance_39 ?_
    refine va_getN (ci := 3) (v := .int (f 4)) (C := RX3) (T := TX3) (N := 9) (own := RX4) hx hb hts hi3 hown hK hP 2 rfl rfl 8 (by decide) (va_Nw.use rfl hn131) (fun _ h9 => h9) rfl dX4_advance_42 ?_
    refine lv_if_eq (tgt := 63) hx hb dX4_advance_45 (by decide) (fun c_2 => ?_) (fun c_2 => ?_)
    · refine lv_aload_n hx hb dX4_advance_63 rfl (lv_at hl 0 rfl) ?_
      refine va_get (ci := 4) (v := .ref (o 0)) (C := RX4) (T := TX4) (N := 4) hx hb hts hi4 hown hK hP 0 rfl rfl 2 (by decide) (hts (.fieldLink RX4 28 "InvaderBoard" "processor" "LInvaderBoard$Processor;") (List.mem_cons_of_mem _ (List.mem_append_left _ (List.mem_append_left _ (List.mem_append_left _ (List.mem_append_left _ (List.mem_append_left _ (List.mem_append_left _ (List.mem_of_getElem? (i := 0) rfl))))))))) (fun _ h9 => h9) rfl dX4_advance_64 ?_
      obtain ⟨r_3, f_3, a_3, hB_3⟩ := k_ex3 (xExecute f a)
      have kc_3 := kX3_execute l D cI o tS sc f a
      rw [hB_3] at kc_3; dsimp only at kc_3
      refine KG.calli (ci := 3) (rest := []) (wt := wX cI o g f_3 a_3) (kc_3) (cwV 0 hts gX4_advance_X3_execute rfl rfl rfl (by decide +kernel) ⟨Nat.le_of_ble_eq_true rfl, Nat.le_of_ble_eq_true rfl⟩) ⟨hx, hb, hml, hown, hts⟩ hK hP hD hS hA hG rfl rfl rfl [2, 3, 4, 5, 6, 7, 8, 9, 10] [0, 1] [0, 1, 2, 3, 4, 5, 6, 7, 8, 9, 10] (by decide) rfl (wr := [_, _]) rfl (by decide) (by decide) (by decide) rfl rfl hl.1 rfl (Nat.le_of_ble_eq_true rfl) dX4_advance_67 ⟨Nat.zero_le _, Nat.zero_le _⟩ (fun H locs hP hD hS => ?_)
      refine lv_istore_n (lv' := [(2, .int _), (0, .ref _), (1, .int _)]) hx hb dX4_advance_70 rfl hl (by decide) rfl (fun ls hl => ?_)
      refine lv_aload_n hx hb dX4_advance_71 rfl (lv_at hl 1 rfl) ?_
      refine va_get (ci := 4) (v := .ref (o 9)) (C := RX4) (T := TX4) (N := 4) hx hb hts hi4 hown hK hP 0 rfl rfl 3 (by decide) (hts (.fieldLink RX4 35 "InvaderBoard" "frames" "LInvaderBoard$Frames;") (List.mem_cons_of_mem _ (List.mem_append_left _ (List.mem_append_left _ (List.mem_append_left _ (List.mem_append_left _ (List.mem_append_left _ (List.mem_append_left _ (List.mem_of_getElem? (i := 1) rfl))))))))) (fun _ h9 => h9) rfl dX4_advance_72 ?_
      refine lv_iload_n hx hb dX4_advance_75 rfl (lv_at hl 0 rfl) ?_
      obtain ⟨r_4, g_4, hB_4⟩ := k_ex2 (xPass g r_3)
      have kc_4 := kX0_pass l D cI o g r_3
      rw [hB_4] at kc_4; dsimp only at kc_4
      refine KC.calli (ci := 0) (rest := []) (wt := wX cI o g_4 f_3 a_3) (kc_4) (cwV 1 hts gX4_advance_X0_pass rfl rfl rfl (by decide +kernel) ⟨Nat.le_of_ble_eq_true rfl, Nat.le_of_ble_eq_true rfl⟩) ⟨hx, hb, hml, hown, hts⟩ hK hP hD hS hA rfl rfl rfl [1] [0, 2, 3, 4, 5, 6, 7, 8, 9, 10] [0, 10, 1, 2, 3, 4, 5, 6, 7, 8, 9] (by decide) rfl (wr := [_, _, _, _, _, _, _, _, _, _]) rfl (by decide) (by decide) (by decide) rfl rfl hl.1 rfl (Nat.le_of_ble_eq_true rfl) dX4_advance_76 ⟨Nat.zero_le _, Nat.zero_le _⟩ (fun H locs hP hD hS => ?_)
      refine lv_if_eq (tgt := 96) hx hb dX4_advance_79 (by decide) (fun c_5 => ?_) (fun c_5 => ?_)
      · refine lv_iload_n hx hb dX4_advance_96 rfl (lv_at hl 0 rfl) ?_
        have hF : xAdvance g f a p1 = (r_3, g_4, f_3, a_3) := by
          unfold xAdvance
          refine (if_pos c_1).trans ?_
          refine (if_pos c_2).trans ?_
          rewrite [hB_3]
          dsimp only
          rewrite [hB_4]
          dsimp only
          refine (if_pos c_5).trans ?_
          rfl
        rw [hF]
        exact KC.reti hx hb hr hlocks hK hP hD hS dX4_advance_97 rfl
      · refine lv_aload_n hx hb dX4_advance_82 rfl (lv_at hl 1 rfl) ?_
        refine va_get (ci := 4) (v := .ref (o 5)) (C := RX4) (T := TX4) (N := 4) hx hb hts hi4 hown hK hP 0 rfl rfl 1 (by decide) (hts (.fieldLink RX4 19 "InvaderBoard" "ports" "LInvaderBoard$Ports;") (List.mem_cons_of_mem _ (List.mem_append_left _ (List.mem_append_left _ (List.mem_append_left _ (List.mem_append_left _ (List.mem_append_left _ (List.mem_append_left _ (List.mem_of_getElem? (i := 6) rfl))))))))) (fun _ h9 => h9) rfl dX4_advance_83 ?_
        obtain ⟨r_6, f7_6, hB_6⟩ := k_ex2 (xEndFrame f_3 a_3)
        have kc_6 := kX2_endFrameUnfed l D cI o f_3 a_3
        rw [hB_6] at kc_6; dsimp only at kc_6
        refine KC.calli (ci := 2) (rest := []) (wt := wX cI o g_4 (upd f_3 7 f7_6) a_3) (kc_6) (cwV 0 hts gX4_advance_X2_endFrameUnfed rfl rfl rfl (by decide +kernel) ⟨Nat.le_of_ble_eq_true rfl, Nat.le_of_ble_eq_true rfl⟩) ⟨hx, hb, hml, hown, hts⟩ hK hP hD hS hA rfl rfl rfl [7, 8, 9, 10] [0, 1, 2, 3, 4, 5, 6] [0, 1, 2, 3, 4, 5, 6, 7, 8, 9, 10] (by decide) rfl (wr := [_, _, _, _, _, _, _]) rfl (by decide) (by decide) (by decide) rfl rfl hl.1 rfl (Nat.le_of_ble_eq_true rfl) dX4_advance_86 ⟨Nat.zero_le _, Nat.zero_le _⟩ (fun H locs hP hD hS => ?_)
        refine lv_if_eq (tgt := 96) hx hb dX4_advance_89 (by decide) (fun c_7 => ?_) (fun c_7 => ?_)
        · refine lv_iload_n hx hb dX4_advance_96 rfl (lv_at hl 0 rfl) ?_
          have hF : xAdvance g f a p1 = (r_3, g_4, upd f_3 7 f7_6, a_3) := by
            unfold xAdvance
            refine (if_pos c_1).trans ?_
            refine (if_pos c_2).trans ?_
            rewrite [hB_3]
            dsimp only
            rewrite [hB_4]
            dsimp only
            refine (if_neg c_5).trans ?_
            rewrite [hB_6]
            dsimp only
            refine (if_pos c_7).trans ?_
            rfl
          rw [hF]
          exact KC.reti hx hb hr hlocks hK hP hD hS dX4_advance_97 rfl
        · refine lv_aload_n hx hb dX4_advance_92 rfl (lv_at hl 1 rfl) ?_
          obtain ⟨g_8, f_8, a_8, hB_8⟩ := k_ex3 (xResetParts g_4 (upd f_3 7 f7_6) a_3)
          have kc_8 := kX4_resetParts l D cI o g_4 (upd f_3 7 f7_6) a_3
          rw [hB_8] at kc_8; dsimp only at kc_8
          refine KC.callv (ci := 4) (rest := []) (wt := wX cI o g_8 f_8 a_8) (kc_8) (cwV 0 hts gX4_advance_X4_resetParts rfl rfl rfl (by decide +kernel) ⟨Nat.le_of_ble_eq_true rfl, Nat.le_of_ble_eq_true rfl⟩) ⟨hx, hb, hml, hown, hts⟩ hK hP hD hS hA rfl rfl rfl [0, 1, 2, 3, 4, 5, 6, 7, 8, 9, 10] [] [0, 1, 2, 3, 4, 5, 6, 7, 8, 9, 10] (by decide) rfl (wr := []) rfl (by decide) (by decide) (by decide) rfl rfl hl.1 rfl (Nat.le_of_ble_eq_true rfl) dX4_advance_93 ⟨Nat.zero_le _, Nat.zero_le _⟩ (fun H locs hP hD hS => ?_)
          refine lv_iload_n hx hb dX4_advance_96 rfl (lv_at hl 0 rfl) ?_
          have hF : xAdvance g f a p1 = (r_3, g_8, f_8, a_8) := by
            unfold xAdvance
            refine (if_pos c_1).trans ?_
            refine (if_pos c_2).trans ?_
            rewrite [hB_3]
            dsimp only
            rewrite [hB_4]
            dsimp only
            refine (if_neg c_5).trans ?_
            rewrite [hB_6]
            dsimp only
            refine (if_neg c_7).trans ?_
            rewrite [hB_8]
            rfl
          rw [hF]
          exact KC.reti hx hb hr hlocks hK hP hD hS dX4_advance_97 rfl
    · refine lv_iload_n hx hb dX4_advance_48 rfl (lv_at hl 1 rfl) ?_
      refine lv_aload_n hx hb dX4_advance_49 rfl (lv_at hl 0 rfl) ?_
      refine va_get (ci := 4) (v := .ref (o 9)) (C := RX4) (T := TX4) (N := 4) hx hb hts hi4 hown hK hP 0 rfl rfl 3 (by decide) (hts (.fieldLink RX4 35 "InvaderBoard" "frames" "LInvaderBoard$Frames;") (List.mem_cons_of_mem _ (List.mem_append_left _ (List.mem_append_left _ (List.mem_append_left _ (List.mem_append_left _ (List.mem_append_left _ (List.mem_append_left _ (List.mem_of_getElem? (i := 1) rfl))))))))) (fun _ h9 => h9) rfl dX4_advance_50 ?_
      refine KC.calli (ci := 0) (rest := [.int p1]) (wt := wX cI o g f a) (kX0_untilRequest l D cI o g) (cwV 0 hts gX4_advance_X0_untilRequest rfl rfl rfl (by decide +kernel) ⟨Nat.le_of_ble_eq_true rfl, Nat.le_of_ble_eq_true rfl⟩) ⟨hx, hb, hml, hown, hts⟩ hK hP hD hS hA rfl rfl rfl [1] [0, 2, 3, 4, 5, 6, 7, 8, 9, 10] [0, 10, 1, 2, 3, 4, 5, 6, 7, 8, 9] (by decide) rfl (wr := [_, _, _, _, _, _, _, _, _, _]) rfl (by decide) (by decide) (by decide) rfl rfl hl.1 rfl (Nat.le_of_ble_eq_true rfl) dX4_advance_53 ⟨Nat.zero_le _, Nat.zero_le _⟩ (fun H locs hP hD hS => ?_)
      refine va_mmin hx hb (hml.trans hl.1.symm) hown (hts (.methodLink RX4 137 Lib.Math.min.name) (List.mem_cons_of_mem _ (List.mem_append_left _ (List.mem_append_left _ (List.mem_append_left _ (List.mem_append_left _ (List.mem_append_left _ (List.mem_append_left _ (List.mem_of_getElem? (i := 2) rfl))))))))) (hts (.static Lib.Math.min.name) (List.mem_cons_of_mem _ (List.mem_append_left _ (List.mem_append_left _ (List.mem_append_left _ (List.mem_append_left _ (List.mem_append_left _ (List.mem_append_left _ (List.mem_of_getElem? (i := 3) rfl))))))))) (hts (.initialized "java/lang/Math") (List.mem_cons_of_mem _ (List.mem_append_left _ (List.mem_append_left _ (List.mem_append_left _ (List.mem_append_left _ (List.mem_append_left _ (List.mem_append_left _ (List.mem_of_getElem? (i := 4) rfl))))))))) (hts (.code Lib.Math.min.name Lib.Math.min.code 2 (some .int)) (List.mem_cons_of_mem _ (List.mem_append_left _ (List.mem_append_left _ (List.mem_append_left _ (List.mem_append_left _ (List.mem_append_left _ (List.mem_append_left _ (List.mem_of_getElem? (i := 5) rfl))))))))) (Nat.le_of_ble_eq_true rfl) (Nat.le_of_ble_eq_true rfl) (Nat.zero_le _) (Nat.zero_le _) dX4_advance_56 ?_
      refine lv_istore_n (lv' := [(2, .int _), (0, .ref _), (1, .int _)]) hx hb dX4_advance_59 rfl hl (by decide) rfl (fun ls hl => ?_)
      refine lv_goto (tgt := 71) hx hb dX4_advance_60 (by decide) ?_
      refine lv_aload_n hx hb dX4_advance_71 rfl (lv_at hl 1 rfl) ?_
      refine va_get (ci := 4) (v := .ref (o 9)) (C := RX4) (T := TX4) (N := 4) hx hb hts hi4 hown hK hP 0 rfl rfl 3 (by decide) (hts (.fieldLink RX4 35 "InvaderBoard" "frames" "LInvaderBoard$Frames;") (List.mem_cons_of_mem _ (List.mem_append_left _ (List.mem_append_left _ (List.mem_append_left _ (List.mem_append_left _ (List.mem_append_left _ (List.mem_append_left _ (List.mem_of_getElem? (i := 1) rfl))))))))) (fun _ h9 => h9) rfl dX4_advance_72 ?_
      refine lv_iload_n hx hb dX4_advance_75 rfl (lv_at hl 0 rfl) ?_
      obtain ⟨r_9, g_9, hB_9⟩ := k_ex2 (xPass g (if (xUntil g) < p1 then xUntil g else p1))
      have kc_9 := kX0_pass l D cI o g (if (xUntil g) < p1 then xUntil g else p1)
      rw [hB_9] at kc_9; dsimp only at kc_9
      refine KC.calli (ci := 0) (rest := []) (wt := wX cI o g_9 f a) (kc_9) (cwV 1 hts gX4_advance_X0_pass rfl rfl rfl (by decide +kernel) ⟨Nat.le_of_ble_eq_true rfl, Nat.le_of_ble_eq_true rfl⟩) ⟨hx, hb, hml, hown, hts⟩ hK hP hD hS hA rfl rfl rfl [1] [0, 2, 3, 4, 5, 6, 7, 8, 9, 10] [0, 10, 1, 2, 3, 4, 5, 6, 7, 8, 9] (by decide) rfl (wr := [_, _, _, _, _, _, _, _, _, _]) rfl (by decide) (by decide) (by decide) rfl rfl hl.1 rfl (Nat.le_of_ble_eq_true rfl) dX4_advance_76 ⟨Nat.zero_le _, Nat.zero_le _⟩ (fun H locs hP hD hS => ?_)
      refine lv_if_eq (tgt := 96) hx hb dX4_advance_79 (by decide) (fun c_10 => ?_) (fun c_10 => ?_)
      · refine lv_iload_n hx hb dX4_advance_96 rfl (lv_at hl 0 rfl) ?_
        have hF : xAdvance g f a p1 = ((if (xUntil g) < p1 then xUntil g else p1), g_9, f, a) := by
          unfold xAdvance
          refine (if_pos c_1).trans ?_
          refine (if_neg c_2).trans ?_
          rewrite [hB_9]
          dsimp only
          refine (if_pos c_10).trans ?_
          rfl
        rw [hF]
        exact KC.reti hx hb hr hlocks hK hP hD hS dX4_advance_97 rfl
      · refine lv_aload_n hx hb dX4_advance_82 rfl (lv_at hl 1 rfl) ?_
        refine va_get (ci := 4) (v := .ref (o 5)) (C := RX4) (T := TX4) (N := 4) hx hb hts hi4 hown hK hP 0 rfl rfl 1 (by decide) (hts (.fieldLink RX4 19 "InvaderBoard" "ports" "LInvaderBoard$Ports;") (List.mem_cons_of_mem _ (List.mem_append_left _ (List.mem_append_left _ (List.mem_append_left _ (List.mem_append_left _ (List.mem_append_left _ (List.mem_append_left _ (List.mem_of_getElem? (i := 6) rfl))))))))) (fun _ h9 => h9) rfl dX4_advance_83 ?_
        obtain ⟨r_11, f7_11, hB_11⟩ := k_ex2 (xEndFrame f a)
        have kc_11 := kX2_endFrameUnfed l D cI o f a
        rw [hB_11] at kc_11; dsimp only at kc_11
        refine KC.calli (ci := 2) (rest := []) (wt := wX cI o g_9 (upd f 7 f7_11) a) (kc_11) (cwV 0 hts gX4_advance_X2_endFrameUnfed rfl rfl rfl (by decide +kernel) ⟨Nat.le_of_ble_eq_true rfl, Nat.le_of_ble_eq_true rfl⟩) ⟨hx, hb, hml, hown, hts⟩ hK hP hD hS hA rfl rfl rfl [7, 8, 9, 10] [0, 1, 2, 3, 4, 5, 6] [0, 1, 2, 3, 4, 5, 6, 7, 8, 9, 10] (by decide) rfl (wr := [_, _, _, _, _, _, _]) rfl (by decide) (by decide) (by decide) rfl rfl hl.1 rfl (Nat.le_of_ble_eq_true rfl) dX4_advance_86 ⟨Nat.zero_le _, Nat.zero_le _⟩ (fun H locs hP hD hS => ?_)
        refine lv_if_eq (tgt := 96) hx hb dX4_advance_89 (by decide) (fun c_12 => ?_) (fun c_12 => ?_)
        · refine lv_iload_n hx hb dX4_advance_96 rfl (lv_at hl 0 rfl) ?_
          have hF : xAdvance g f a p1 = ((if (xUntil g) < p1 then xUntil g else p1), g_9, upd f 7 f7_11, a) := by
            unfold xAdvance
            refine (if_pos c_1).trans ?_
            refine (if_neg c_2).trans ?_
            rewrite [hB_9]
            dsimp only
            refine (if_neg c_10).trans ?_
            rewrite [hB_11]
            dsimp only
            refine (if_pos c_12).trans ?_
            rfl
          rw [hF]
          exact KC.reti hx hb hr hlocks hK hP hD hS dX4_advance_97 rfl
        · refine lv_aload_n hx hb dX4_advance_92 rfl (lv_at hl 1 rfl) ?_
          obtain ⟨g_13, f_13, a_13, hB_13⟩ := k_ex3 (xResetParts g_9 (upd f 7 f7_11) a)
          have kc_13 := kX4_resetParts l D cI o g_9 (upd f 7 f7_11) a
          rw [hB_13] at kc_13; dsimp only at kc_13
          refine KC.callv (ci := 4) (rest := []) (wt := wX cI o g_13 f_13 a_13) (kc_13) (cwV 0 hts gX4_advance_X4_resetParts rfl rfl rfl (by decide +kernel) ⟨Nat.le_of_ble_eq_true rfl, Nat.le_of_ble_eq_true rfl⟩) ⟨hx, hb, hml, hown, hts⟩ hK hP hD hS hA rfl rfl rfl [0, 1, 2, 3, 4, 5, 6, 7, 8, 9, 10] [] [0, 1, 2, 3, 4, 5, 6, 7, 8, 9, 10] (by decide) rfl (wr := []) rfl (by decide) (by decide) (by decide) rfl rfl hl.1 rfl (Nat.le_of_ble_eq_true rfl) dX4_advance_93 ⟨Nat.zero_le _, Nat.zero_le _⟩ (fun H locs hP hD hS => ?_)
          refine lv_iload_n hx hb dX4_advance_96 rfl (lv_at hl 0 rfl) ?_
          have hF : xAdvance g f a p1 = ((if (xUntil g) < p1 then xUntil g else p1), g_13, f_13, a_13) := by
            unfold xAdvance
            refine (if_pos c_1).trans ?_
            refine (if_neg c_2).trans ?_
            rewrite [hB_9]
            dsimp only
            refine (if_neg c_10).trans ?_
            rewrite [hB_11]
            dsimp only
            refine (if_neg c_12).trans ?_
            rewrite [hB_13]
            rfl
          rw [hF]
          exact KC.reti hx hb hr hlocks hK hP hD hS dX4_advance_97 rfl
  · refine lv_aload_n hx hb dX4_advance_10 rfl (lv_at hl 0 rfl) ?_
    refine va_get (ci := 4) (v := .ref (o 9)) (C := RX4) (T := TX4) (N := 4) hx hb hts hi4 hown hK hP 0 rfl rfl 3 (by decide) (hts (.fieldLink RX4 35 "InvaderBoard" "frames" "LInvaderBoard$Frames;") (List.mem_cons_of_mem _ (List.mem_append_left _ (List.mem_append_left _ (List.mem_append_left _ (List.mem_append_left _ (List.mem_append_left _ (List.mem_append_left _ (List.mem_of_getElem? (i := 1) rfl))))))))) (fun _ h9 => h9) rfl dX4_advance_11 ?_
    refine va_getN (ci := 0) (v := .int (g 10)) (C := RX0) (T := TX0) (N := 3) (own := RX4) hx hb hts hi0 hown hK hP 1 rfl rfl 2 (by decide) (va_Nw.use rfl hn104) (fun _ h9 => h9) rfl dX4_advance_14 ?_
    refine lv_if_eq (tgt := 38) hx hb dX4_advance_17 (by decide) (fun c_14 => ?_) (fun c_14 => ?_)
    · refine lv_aload_n hx hb dX4_advance_38 rfl (lv_at hl 0 rfl) ?_
      refine va_get (ci := 4) (v := .ref (o 0)) (C := RX4) (T := TX4) (N := 4) hx hb hts hi4 hown hK hP 0 rfl rfl 2 (by decide) (hts (.fieldLink RX4 28 "InvaderBoard" "processor" "LInvaderBoard$Processor;") (List.mem_cons_of_mem _ (List.mem_append_left _ (List.mem_append_left _ (List.mem_append_left _ (List.mem_append_left _ (List.mem_append_left _ (List.mem_append_left _ (List.mem_of_getElem? (i := 0) rfl))))))))) (fun _ h9 => h9) rfl dX4_advance_39 ?_
      refine va_getN (ci := 3) (v := .int (f 4)) (C := RX3) (T := TX3) (N := 9) (own := RX4) hx hb hts hi3 hown hK hP 2 rfl rfl 8 (by decide) (va_Nw.use rfl hn131) (fun _ h9 => h9) rfl dX4_advance_42 ?_
      refine lv_if_eq (tgt := 63) hx hb dX4_advance_45 (by decide) (fun c_15 => ?_) (fun c_15 => ?_)
      · refine lv_aload_n hx hb dX4_advance_63 rfl (lv_at hl 0 rfl) ?_
        refine va_get (ci := 4) (v := .ref (o 0)) (C := RX4) (T := TX4) (N := 4) hx hb hts hi4 hown hK hP 0 rfl rfl 2 (by decide) (hts (.fieldLink RX4 28 "InvaderBoard" "processor" "LInvaderBoard$Processor;") (List.mem_cons_of_mem _ (List.mem_append_left _ (List.mem_append_left _ (List.mem_append_left _ (List.mem_append_left _ (List.mem_append_left _ (List.mem_append_left _ (List.mem_of_getElem? (i := 0) rfl))))))))) (fun _ h9 => h9) rfl dX4_advance_64 ?_
        obtain ⟨r_16, f_16, a_16, hB_16⟩ := k_ex3 (xExecute f a)
        have kc_16 := kX3_execute l D cI o tS sc f a
        rw [hB_16] at kc_16; dsimp only at kc_16
        refine KG.calli (ci := 3) (rest := []) (wt := wX cI o g f_16 a_16) (kc_16) (cwV 0 hts gX4_advance_X3_execute rfl rfl rfl (by decide +kernel) ⟨Nat.le_of_ble_eq_true rfl, Nat.le_of_ble_eq_true rfl⟩) ⟨hx, hb, hml, hown, hts⟩ hK hP hD hS hA hG rfl rfl rfl [2, 3, 4, 5, 6, 7, 8, 9, 10] [0, 1] [0, 1, 2, 3, 4, 5, 6, 7, 8, 9, 10] (by decide) rfl (wr := [_, _]) rfl (by decide) (by decide) (by decide) rfl rfl hl.1 rfl (Nat.le_of_ble_eq_true rfl) dX4_advance_67 ⟨Nat.zero_le _, Nat.zero_le _⟩ (fun H locs hP hD hS => ?_)
        refine lv_istore_n (lv' := [(2, .int _), (0, .ref _), (1, .int _)]) hx hb dX4_advance_70 rfl hl (by decide) rfl (fun ls hl => ?_)
        refine lv_aload_n hx hb dX4_advance_71 rfl (lv_at hl 1 rfl) ?_
        refine va_get (ci := 4) (v := .ref (o 9)) (C := RX4) (T := TX4) (N := 4) hx hb hts hi4 hown hK hP 0 rfl rfl 3 (by decide) (hts (.fieldLink RX4 35 "InvaderBoard" "frames" "LInvaderBoard$Frames;") (List.mem_cons_of_mem _ (List.mem_append_left _ (List.mem_append_left _ (List.mem_append_left _ (List.mem_append_left _ (List.mem_append_left _ (List.mem_append_left _ (List.mem_of_getElem? (i := 1) rfl))))))))) (fun _ h9 => h9) rfl dX4_advance_72 ?_
        refine lv_iload_n hx hb dX4_advance_75 rfl (lv_at hl 0 rfl) ?_
        obtain ⟨r_17, g_17, hB_17⟩ := k_ex2 (xPass g r_16)
        have kc_17 := kX0_pass l D cI o g r_16
        rw [hB_17] at kc_17; dsimp only at kc_17
        refine KC.calli (ci := 0) (rest := []) (wt := wX cI o g_17 f_16 a_16) (kc_17) (cwV 1 hts gX4_advance_X0_pass rfl rfl rfl (by decide +kernel) ⟨Nat.le_of_ble_eq_true rfl, Nat.le_of_ble_eq_true rfl⟩) ⟨hx, hb, hml, hown, hts⟩ hK hP hD hS hA rfl rfl rfl [1] [0, 2, 3, 4, 5, 6, 7, 8, 9, 10] [0, 10, 1, 2, 3, 4, 5, 6, 7, 8, 9] (by decide) rfl (wr := [_, _, _, _, _, _, _, _, _, _]) rfl (by decide) (by decide) (by decide) rfl rfl hl.1 rfl (Nat.le_of_ble_eq_true rfl) dX4_advance_76 ⟨Nat.zero_le _, Nat.zero_le _⟩ (fun H locs hP hD hS => ?_)
        refine lv_if_eq (tgt := 96) hx hb dX4_advance_79 (by decide) (fun c_18 => ?_) (fun c_18 => ?_)
        · refine lv_iload_n hx hb dX4_advance_96 rfl (lv_at hl 0 rfl) ?_
          have hF : xAdvance g f a p1 = (r_16, g_17, f_16, a_16) := by
            unfold xAdvance
            refine (if_neg c_1).trans ?_
            refine (if_pos c_14).trans ?_
            refine (if_pos c_15).trans ?_
            rewrite [hB_16]
            dsimp only
            rewrite [hB_17]
            dsimp only
            refine (if_pos c_18).trans ?_
            rfl
          rw [hF]
          exact KC.reti hx hb hr hlocks hK hP hD hS dX4_advance_97 rfl
        · refine lv_aload_n hx hb dX4_advance_82 rfl (lv_at hl 1 rfl) ?_
          refine va_get (ci := 4) (v := .ref (o 5)) (C := RX4) (T := TX4) (N := 4) hx hb hts hi4 hown hK hP 0 rfl rfl 1 (by decide) (hts (.fieldLink RX4 19 "InvaderBoard" "ports" "LInvaderBoard$Ports;") (List.mem_cons_of_mem _ (List.mem_append_left _ (List.mem_append_left _ (List.mem_append_left _ (List.mem_append_left _ (List.mem_append_left _ (List.mem_append_left _ (List.mem_of_getElem? (i := 6) rfl))))))))) (fun _ h9 => h9) rfl dX4_advance_83 ?_
          obtain ⟨r_19, f7_19, hB_19⟩ := k_ex2 (xEndFrame f_16 a_16)
          have kc_19 := kX2_endFrameUnfed l D cI o f_16 a_16
          rw [hB_19] at kc_19; dsimp only at kc_19
          refine KC.calli (ci := 2) (rest := []) (wt := wX cI o g_17 (upd f_16 7 f7_19) a_16) (kc_19) (cwV 0 hts gX4_advance_X2_endFrameUnfed rfl rfl rfl (by decide +kernel) ⟨Nat.le_of_ble_eq_true rfl, Nat.le_of_ble_eq_true rfl⟩) ⟨hx, hb, hml, hown, hts⟩ hK hP hD hS hA rfl rfl rfl [7, 8, 9, 10] [0, 1, 2, 3, 4, 5, 6] [0, 1, 2, 3, 4, 5, 6, 7, 8, 9, 10] (by decide) rfl (wr := [_, _, _, _, _, _, _]) rfl (by decide) (by decide) (by decide) rfl rfl hl.1 rfl (Nat.le_of_ble_eq_true rfl) dX4_advance_86 ⟨Nat.zero_le _, Nat.zero_le _⟩ (fun H locs hP hD hS => ?_)
          refine lv_if_eq (tgt := 96) hx hb dX4_advance_89 (by decide) (fun c_20 => ?_) (fun c_20 => ?_)
          · refine lv_iload_n hx hb dX4_advance_96 rfl (lv_at hl 0 rfl) ?_
            have hF : xAdvance g f a p1 = (r_16, g_17, upd f_16 7 f7_19, a_16) := by
              unfold xAdvance
              refine (if_neg c_1).trans ?_
              refine (if_pos c_14).trans ?_
              refine (if_pos c_15).trans ?_
              rewrite [hB_16]
              dsimp only
              rewrite [hB_17]
              dsimp only
              refine (if_neg c_18).trans ?_
              rewrite [hB_19]
              dsimp only
              refine (if_pos c_20).trans ?_
              rfl
            rw [hF]
            exact KC.reti hx hb hr hlocks hK hP hD hS dX4_advance_97 rfl
          · refine lv_aload_n hx hb dX4_advance_92 rfl (lv_at hl 1 rfl) ?_
            obtain ⟨g_21, f_21, a_21, hB_21⟩ := k_ex3 (xResetParts g_17 (upd f_16 7 f7_19) a_16)
            have kc_21 := kX4_resetParts l D cI o g_17 (upd f_16 7 f7_19) a_16
            rw [hB_21] at kc_21; dsimp only at kc_21
            refine KC.callv (ci := 4) (rest := []) (wt := wX cI o g_21 f_21 a_21) (kc_21) (cwV 0 hts gX4_advance_X4_resetParts rfl rfl rfl (by decide +kernel) ⟨Nat.le_of_ble_eq_true rfl, Nat.le_of_ble_eq_true rfl⟩) ⟨hx, hb, hml, hown, hts⟩ hK hP hD hS hA rfl rfl rfl [0, 1, 2, 3, 4, 5, 6, 7, 8, 9, 10] [] [0, 1, 2, 3, 4, 5, 6, 7, 8, 9, 10] (by decide) rfl (wr := []) rfl (by decide) (by decide) (by decide) rfl rfl hl.1 rfl (Nat.le_of_ble_eq_true rfl) dX4_advance_93 ⟨Nat.zero_le _, Nat.zero_le _⟩ (fun H locs hP hD hS => ?_)
            refine lv_iload_n hx hb dX4_advance_96 rfl (lv_at hl 0 rfl) ?_
            have hF : xAdvance g f a p1 = (r_16, g_21, f_21, a_21) := by
              unfold xAdvance
              refine (if_neg c_1).trans ?_
              refine (if_pos c_14).trans ?_
              refine (if_pos c_15).trans ?_
              rewrite [hB_16]
              dsimp only
              rewrite [hB_17]
              dsimp only
              refine (if_neg c_18).trans ?_
              rewrite [hB_19]
              dsimp only
              refine (if_neg c_20).trans ?_
              rewrite [hB_21]
              rfl
            rw [hF]
            exact KC.reti hx hb hr hlocks hK hP hD hS dX4_advance_97 rfl
      · refine lv_iload_n hx hb dX4_advance_48 rfl (lv_at hl 1 rfl) ?_
        refine lv_aload_n hx hb dX4_advance_49 rfl (lv_at hl 0 rfl) ?_
        refine va_get (ci := 4) (v := .ref (o 9)) (C := RX4) (T := TX4) (N := 4) hx hb hts hi4 hown hK hP 0 rfl rfl 3 (by decide) (hts (.fieldLink RX4 35 "InvaderBoard" "frames" "LInvaderBoard$Frames;") (List.mem_cons_of_mem _ (List.mem_append_left _ (List.mem_append_left _ (List.mem_append_left _ (List.mem_append_left _ (List.mem_append_left _ (List.mem_append_left _ (List.mem_of_getElem? (i := 1) rfl))))))))) (fun _ h9 => h9) rfl dX4_advance_50 ?_
        refine KC.calli (ci := 0) (rest := [.int p1]) (wt := wX cI o g f a) (kX0_untilRequest l D cI o g) (cwV 0 hts gX4_advance_X0_untilRequest rfl rfl rfl (by decide +kernel) ⟨Nat.le_of_ble_eq_true rfl, Nat.le_of_ble_eq_true rfl⟩) ⟨hx, hb, hml, hown, hts⟩ hK hP hD hS hA rfl rfl rfl [1] [0, 2, 3, 4, 5, 6, 7, 8, 9, 10] [0, 10, 1, 2, 3, 4, 5, 6, 7, 8, 9] (by decide) rfl (wr := [_, _, _, _, _, _, _, _, _, _]) rfl (by decide) (by decide) (by decide) rfl rfl hl.1 rfl (Nat.le_of_ble_eq_true rfl) dX4_advance_53 ⟨Nat.zero_le _, Nat.zero_le _⟩ (fun H locs hP hD hS => ?_)
        refine va_mmin hx hb (hml.trans hl.1.symm) hown (hts (.methodLink RX4 137 Lib.Math.min.name) (List.mem_cons_of_mem _ (List.mem_append_left _ (List.mem_append_left _ (List.mem_append_left _ (List.mem_append_left _ (List.mem_append_left _ (List.mem_append_left _ (List.mem_of_getElem? (i := 2) rfl))))))))) (hts (.static Lib.Math.min.name) (List.mem_cons_of_mem _ (List.mem_append_left _ (List.mem_append_left _ (List.mem_append_left _ (List.mem_append_left _ (List.mem_append_left _ (List.mem_append_left _ (List.mem_of_getElem? (i := 3) rfl))))))))) (hts (.initialized "java/lang/Math") (List.mem_cons_of_mem _ (List.mem_append_left _ (List.mem_append_left _ (List.mem_append_left _ (List.mem_append_left _ (List.mem_append_left _ (List.mem_append_left _ (List.mem_of_getElem? (i := 4) rfl))))))))) (hts (.code Lib.Math.min.name Lib.Math.min.code 2 (some .int)) (List.mem_cons_of_mem _ (List.mem_append_left _ (List.mem_append_left _ (List.mem_append_left _ (List.mem_append_left _ (List.mem_append_left _ (List.mem_append_left _ (List.mem_of_getElem? (i := 5) rfl))))))))) (Nat.le_of_ble_eq_true rfl) (Nat.le_of_ble_eq_true rfl) (Nat.zero_le _) (Nat.zero_le _) dX4_advance_56 ?_
        refine lv_istore_n (lv' := [(2, .int _), (0, .ref _), (1, .int _)]) hx hb dX4_advance_59 rfl hl (by decide) rfl (fun ls hl => ?_)
        refine lv_goto (tgt := 71) hx hb dX4_advance_60 (by decide) ?_
        refine lv_aload_n hx hb dX4_advance_71 rfl (lv_at hl 1 rfl) ?_
        refine va_get (ci := 4) (v := .ref (o 9)) (C := RX4) (T := TX4) (N := 4) hx hb hts hi4 hown hK hP 0 rfl rfl 3 (by decide) (hts (.fieldLink RX4 35 "InvaderBoard" "frames" "LInvaderBoard$Frames;") (List.mem_cons_of_mem _ (List.mem_append_left _ (List.mem_append_left _ (List.mem_append_left _ (List.mem_append_left _ (List.mem_append_left _ (List.mem_append_left _ (List.mem_of_getElem? (i := 1) rfl))))))))) (fun _ h9 => h9) rfl dX4_advance_72 ?_
        refine lv_iload_n hx hb dX4_advance_75 rfl (lv_at hl 0 rfl) ?_
        obtain ⟨r_22, g_22, hB_22⟩ := k_ex2 (xPass g (if (xUntil g) < p1 then xUntil g else p1))
        have kc_22 := kX0_pass l D cI o g (if (xUntil g) < p1 then xUntil g else p1)
        rw [hB_22] at kc_22; dsimp only at kc_22
        refine KC.calli (ci := 0) (rest := []) (wt := wX cI o g_22 f a) (kc_22) (cwV 1 hts gX4_advance_X0_pass rfl rfl rfl (by decide +kernel) ⟨Nat.le_of_ble_eq_true rfl, Nat.le_of_ble_eq_true rfl⟩) ⟨hx, hb, hml, hown, hts⟩ hK hP hD hS hA rfl rfl rfl [1] [0, 2, 3, 4, 5, 6, 7, 8, 9, 10] [0, 10, 1, 2, 3, 4, 5, 6, 7, 8, 9] (by decide) rfl (wr := [_, _, _, _, _, _, _, _, _, _]) rfl (by decide) (by decide) (by decide) rfl rfl hl.1 rfl (Nat.le_of_ble_eq_true rfl) dX4_advance_76 ⟨Nat.zero_le _, Nat.zero_le _⟩ (fun H locs hP hD hS => ?_)
        refine lv_if_eq (tgt := 96) hx hb dX4_advance_79 (by decide) (fun c_23 => ?_) (fun c_23 => ?_)
        · refine lv_iload_n hx hb dX4_advance_96 rfl (lv_at hl 0 rfl) ?_
          have hF : xAdvance g f a p1 = ((if (xUntil g) < p1 then xUntil g else p1), g_22, f, a) := by
            unfold xAdvance
            refine (if_neg c_1).trans ?_
            refine (if_pos c_14).trans ?_
            refine (if_neg c_15).trans ?_
            rewrite [hB_22]
            dsimp only
            refine (if_pos c_23).trans ?_
            rfl
          rw [hF]
          exact KC.reti hx hb hr hlocks hK hP hD hS dX4_advance_97 rfl
        · refine lv_aload_n hx hb dX4_advance_82 rfl (lv_at hl 1 rfl) ?_
          refine va_get (ci := 4) (v := .ref (o 5)) (C := RX4) (T := TX4) (N := 4) hx hb hts hi4 hown hK hP 0 rfl rfl 1 (by decide) (hts (.fieldLink RX4 19 "InvaderBoard" "ports" "LInvaderBoard$Ports;") (List.mem_cons_of_mem _ (List.mem_append_left _ (List.mem_append_left _ (List.mem_append_left _ (List.mem_append_left _ (List.mem_append_left _ (List.mem_append_left _ (List.mem_of_getElem? (i := 6) rfl))))))))) (fun _ h9 => h9) rfl dX4_advance_83 ?_
          obtain ⟨r_24, f7_24, hB_24⟩ := k_ex2 (xEndFrame f a)
          have kc_24 := kX2_endFrameUnfed l D cI o f a
          rw [hB_24] at kc_24; dsimp only at kc_24
          refine KC.calli (ci := 2) (rest := []) (wt := wX cI o g_22 (upd f 7 f7_24) a) (kc_24) (cwV 0 hts gX4_advance_X2_endFrameUnfed rfl rfl rfl (by decide +kernel) ⟨Nat.le_of_ble_eq_true rfl, Nat.le_of_ble_eq_true rfl⟩) ⟨hx, hb, hml, hown, hts⟩ hK hP hD hS hA rfl rfl rfl [7, 8, 9, 10] [0, 1, 2, 3, 4, 5, 6] [0, 1, 2, 3, 4, 5, 6, 7, 8, 9, 10] (by decide) rfl (wr := [_, _, _, _, _, _, _]) rfl (by decide) (by decide) (by decide) rfl rfl hl.1 rfl (Nat.le_of_ble_eq_true rfl) dX4_advance_86 ⟨Nat.zero_le _, Nat.zero_le _⟩ (fun H locs hP hD hS => ?_)
          refine lv_if_eq (tgt := 96) hx hb dX4_advance_89 (by decide) (fun c_25 => ?_) (fun c_25 => ?_)
          · refine lv_iload_n hx hb dX4_advance_96 rfl (lv_at hl 0 rfl) ?_
            have hF : xAdvance g f a p1 = ((if (xUntil g) < p1 then xUntil g else p1), g_22, upd f 7 f7_24, a) := by
              unfold xAdvance
              refine (if_neg c_1).trans ?_
              refine (if_pos c_14).trans ?_
              refine (if_neg c_15).trans ?_
              rewrite [hB_22]
              dsimp only
              refine (if_neg c_23).trans ?_
              rewrite [hB_24]
              dsimp only
              refine (if_pos c_25).trans ?_
              rfl
            rw [hF]
            exact KC.reti hx hb hr hlocks hK hP hD hS dX4_advance_97 rfl
          · refine lv_aload_n hx hb dX4_advance_92 rfl (lv_at hl 1 rfl) ?_
            obtain ⟨g_26, f_26, a_26, hB_26⟩ := k_ex3 (xResetParts g_22 (upd f 7 f7_24) a)
            have kc_26 := kX4_resetParts l D cI o g_22 (upd f 7 f7_24) a
            rw [hB_26] at kc_26; dsimp only at kc_26
            refine KC.callv (ci := 4) (rest := []) (wt := wX cI o g_26 f_26 a_26) (kc_26) (cwV 0 hts gX4_advance_X4_resetParts rfl rfl rfl (by decide +kernel) ⟨Nat.le_of_ble_eq_true rfl, Nat.le_of_ble_eq_true rfl⟩) ⟨hx, hb, hml, hown, hts⟩ hK hP hD hS hA rfl rfl rfl [0, 1, 2, 3, 4, 5, 6, 7, 8, 9, 10] [] [0, 1, 2, 3, 4, 5, 6, 7, 8, 9, 10] (by decide) rfl (wr := []) rfl (by decide) (by decide) (by decide) rfl rfl hl.1 rfl (Nat.le_of_ble_eq_true rfl) dX4_advance_93 ⟨Nat.zero_le _, Nat.zero_le _⟩ (fun H locs hP hD hS => ?_)
            refine lv_iload_n hx hb dX4_advance_96 rfl (lv_at hl 0 rfl) ?_
            have hF : xAdvance g f a p1 = ((if (xUntil g) < p1 then xUntil g else p1), g_26, f_26, a_26) := by
              unfold xAdvance
              refine (if_neg c_1).trans ?_
              refine (if_pos c_14).trans ?_
              refine (if_neg c_15).trans ?_
              rewrite [hB_22]
              dsimp only
              refine (if_neg c_23).trans ?_
              rewrite [hB_24]
              dsimp only
              refine (if_neg c_25).trans ?_
              rewrite [hB_26]
              rfl
            rw [hF]
            exact KC.reti hx hb hr hlocks hK hP hD hS dX4_advance_97 rfl
    · refine lv_aload_n hx hb dX4_advance_20 rfl (lv_at hl 0 rfl) ?_
      refine va_get (ci := 4) (v := .ref (o 0)) (C := RX4) (T := TX4) (N := 4) hx hb hts hi4 hown hK hP 0 rfl rfl 2 (by decide) (hts (.fieldLink RX4 28 "InvaderBoard" "processor" "LInvaderBoard$Processor;") (List.mem_cons_of_mem _ (List.mem_append_left _ (List.mem_append_left _ (List.mem_append_left _ (List.mem_append_left _ (List.mem_append_left _ (List.mem_append_left _ (List.mem_of_getElem? (i := 0) rfl))))))))) (fun _ h9 => h9) rfl dX4_advance_21 ?_
      refine lv_aload_n hx hb dX4_advance_24 rfl (lv_at hl 0 rfl) ?_
      refine va_get (ci := 4) (v := .ref (o 9)) (C := RX4) (T := TX4) (N := 4) hx hb hts hi4 hown hK hP 0 rfl rfl 3 (by decide) (hts (.fieldLink RX4 35 "InvaderBoard" "frames" "LInvaderBoard$Frames;") (List.mem_cons_of_mem _ (List.mem_append_left _ (List.mem_append_left _ (List.mem_append_left _ (List.mem_append_left _ (List.mem_append_left _ (List.mem_append_left _ (List.mem_of_getElem? (i := 1) rfl))))))))) (fun _ h9 => h9) rfl dX4_advance_25 ?_
      obtain ⟨r_27, g_27, hB_27⟩ := k_ex2 (xTakeWaiting g)
      have kc_27 := kX0_takeWaiting l D cI o g
      rw [hB_27] at kc_27; dsimp only at kc_27
      refine KC.calli (ci := 0) (rest := [.ref (o 0)]) (wt := wX cI o g_27 f a) (kc_27) (cwV 0 hts gX4_advance_X0_takeWaiting rfl rfl rfl (by decide +kernel) ⟨Nat.le_of_ble_eq_true rfl, Nat.le_of_ble_eq_true rfl⟩) ⟨hx, hb, hml, hown, hts⟩ hK hP hD hS hA rfl rfl rfl [1] [0, 2, 3, 4, 5, 6, 7, 8, 9, 10] [0, 10, 1, 2, 3, 4, 5, 6, 7, 8, 9] (by decide) rfl (wr := [_, _, _, _, _, _, _, _, _, _]) rfl (by decide) (by decide) (by decide) rfl rfl hl.1 rfl (Nat.le_of_ble_eq_true rfl) dX4_advance_28 ⟨Nat.zero_le _, Nat.zero_le _⟩ (fun H locs hP hD hS => ?_)
      obtain ⟨r_28, f_28, a_28, hB_28⟩ := k_ex3 (xTakeRequest f a r_27)
      have kc_28 := kX3_takeRequest l D cI o f a r_27
      rw [hB_28] at kc_28; dsimp only at kc_28
      refine KC.calli (ci := 3) (rest := []) (wt := wX cI o g_27 f_28 a_28) (kc_28) (cwV 1 hts gX4_advance_X3_takeRequest rfl rfl rfl (by decide +kernel) ⟨Nat.le_of_ble_eq_true rfl, Nat.le_of_ble_eq_true rfl⟩) ⟨hx, hb, hml, hown, hts⟩ hK hP hD hS hA rfl rfl rfl [2, 3, 4, 5, 6, 7, 8, 9, 10] [0, 1] [0, 1, 2, 3, 4, 5, 6, 7, 8, 9, 10] (by decide) rfl (wr := [_, _]) rfl (by decide) (by decide) (by decide) rfl rfl hl.1 rfl (Nat.le_of_ble_eq_true rfl) dX4_advance_31 ⟨Nat.zero_le _, Nat.zero_le _⟩ (fun H locs hP hD hS => ?_)
      refine lv_istore_n (lv' := [(2, .int _), (0, .ref _), (1, .int _)]) hx hb dX4_advance_34 rfl hl (by decide) rfl (fun ls hl => ?_)
      refine lv_goto (tgt := 71) hx hb dX4_advance_35 (by decide) ?_
      refine lv_aload_n hx hb dX4_advance_71 rfl (lv_at hl 1 rfl) ?_
      refine va_get (ci := 4) (v := .ref (o 9)) (C := RX4) (T := TX4) (N := 4) hx hb hts hi4 hown hK hP 0 rfl rfl 3 (by decide) (hts (.fieldLink RX4 35 "InvaderBoard" "frames" "LInvaderBoard$Frames;") (List.mem_cons_of_mem _ (List.mem_append_left _ (List.mem_append_left _ (List.mem_append_left _ (List.mem_append_left _ (List.mem_append_left _ (List.mem_append_left _ (List.mem_of_getElem? (i := 1) rfl))))))))) (fun _ h9 => h9) rfl dX4_advance_72 ?_
      refine lv_iload_n hx hb dX4_advance_75 rfl (lv_at hl 0 rfl) ?_
      obtain ⟨r_29, g_29, hB_29⟩ := k_ex2 (xPass g_27 r_28)
      have kc_29 := kX0_pass l D cI o g_27 r_28
      rw [hB_29] at kc_29; dsimp only at kc_29
      refine KC.calli (ci := 0) (rest := []) (wt := wX cI o g_29 f_28 a_28) (kc_29) (cwV 1 hts gX4_advance_X0_pass rfl rfl rfl (by decide +kernel) ⟨Nat.le_of_ble_eq_true rfl, Nat.le_of_ble_eq_true rfl⟩) ⟨hx, hb, hml, hown, hts⟩ hK hP hD hS hA rfl rfl rfl [1] [0, 2, 3, 4, 5, 6, 7, 8, 9, 10] [0, 10, 1, 2, 3, 4, 5, 6, 7, 8, 9] (by decide) rfl (wr := [_, _, _, _, _, _, _, _, _, _]) rfl (by decide) (by decide) (by decide) rfl rfl hl.1 rfl (Nat.le_of_ble_eq_true rfl) dX4_advance_76 ⟨Nat.zero_le _, Nat.zero_le _⟩ (fun H locs hP hD hS => ?_)
      refine lv_if_eq (tgt := 96) hx hb dX4_advance_79 (by decide) (fun c_30 => ?_) (fun c_30 => ?_)
      · refine lv_iload_n hx hb dX4_advance_96 rfl (lv_at hl 0 rfl) ?_
        have hF : xAdvance g f a p1 = (r_28, g_29, f_28, a_28) := by
          unfold xAdvance
          refine (if_neg c_1).trans ?_
          refine (if_neg c_14).trans ?_
          rewrite [hB_27]
          dsimp only
          rewrite [hB_28]
          dsimp only
          rewrite [hB_29]
          dsimp only
          refine (if_pos c_30).trans ?_
          rfl
        rw [hF]
        exact KC.reti hx hb hr hlocks hK hP hD hS dX4_advance_97 rfl
      · refine lv_aload_n hx hb dX4_advance_82 rfl (lv_at hl 1 rfl) ?_
        refine va_get (ci := 4) (v := .ref (o 5)) (C := RX4) (T := TX4) (N := 4) hx hb hts hi4 hown hK hP 0 rfl rfl 1 (by decide) (hts (.fieldLink RX4 19 "InvaderBoard" "ports" "LInvaderBoard$Ports;") (List.mem_cons_of_mem _ (List.mem_append_left _ (List.mem_append_left _ (List.mem_append_left _ (List.mem_append_left _ (List.mem_append_left _ (List.mem_append_left _ (List.mem_of_getElem? (i := 6) rfl))))))))) (fun _ h9 => h9) rfl dX4_advance_83 ?_
        obtain ⟨r_31, f7_31, hB_31⟩ := k_ex2 (xEndFrame f_28 a_28)
        have kc_31 := kX2_endFrameUnfed l D cI o f_28 a_28
        rw [hB_31] at kc_31; dsimp only at kc_31
        refine KC.calli (ci := 2) (rest := []) (wt := wX cI o g_29 (upd f_28 7 f7_31) a_28) (kc_31) (cwV 0 hts gX4_advance_X2_endFrameUnfed rfl rfl rfl (by decide +kernel) ⟨Nat.le_of_ble_eq_true rfl, Nat.le_of_ble_eq_true rfl⟩) ⟨hx, hb, hml, hown, hts⟩ hK hP hD hS hA rfl rfl rfl [7, 8, 9, 10] [0, 1, 2, 3, 4, 5, 6] [0, 1, 2, 3, 4, 5, 6, 7, 8, 9, 10] (by decide) rfl (wr := [_, _, _, _, _, _, _]) rfl (by decide) (by decide) (by decide) rfl rfl hl.1 rfl (Nat.le_of_ble_eq_true rfl) dX4_advance_86 ⟨Nat.zero_le _, Nat.zero_le _⟩ (fun H locs hP hD hS => ?_)
        refine lv_if_eq (tgt := 96) hx hb dX4_advance_89 (by decide) (fun c_32 => ?_) (fun c_32 => ?_)
        · refine lv_iload_n hx hb dX4_advance_96 rfl (lv_at hl 0 rfl) ?_
          have hF : xAdvance g f a p1 = (r_28, g_29, upd f_28 7 f7_31, a_28) := by
            unfold xAdvance
            refine (if_neg c_1).trans ?_
            refine (if_neg c_14).trans ?_
            rewrite [hB_27]
            dsimp only
            rewrite [hB_28]
            dsimp only
            rewrite [hB_29]
            dsimp only
            refine (if_neg c_30).trans ?_
            rewrite [hB_31]
            dsimp only
            refine (if_pos c_32).trans ?_
            rfl
          rw [hF]
          exact KC.reti hx hb hr hlocks hK hP hD hS dX4_advance_97 rfl
        · refine lv_aload_n hx hb dX4_advance_92 rfl (lv_at hl 1 rfl) ?_
          obtain ⟨g_33, f_33, a_33, hB_33⟩ := k_ex3 (xResetParts g_29 (upd f_28 7 f7_31) a_28)
          have kc_33 := kX4_resetParts l D cI o g_29 (upd f_28 7 f7_31) a_28
          rw [hB_33] at kc_33; dsimp only at kc_33
          refine KC.callv (ci := 4) (rest := []) (wt := wX cI o g_33 f_33 a_33) (kc_33) (cwV 0 hts gX4_advance_X4_resetParts rfl rfl rfl (by decide +kernel) ⟨Nat.le_of_ble_eq_true rfl, Nat.le_of_ble_eq_true rfl⟩) ⟨hx, hb, hml, hown, hts⟩ hK hP hD hS hA rfl rfl rfl [0, 1, 2, 3, 4, 5, 6, 7, 8, 9, 10] [] [0, 1, 2, 3, 4, 5, 6, 7, 8, 9, 10] (by decide) rfl (wr := []) rfl (by decide) (by decide) (by decide) rfl rfl hl.1 rfl (Nat.le_of_ble_eq_true rfl) dX4_advance_93 ⟨Nat.zero_le _, Nat.zero_le _⟩ (fun H locs hP hD hS => ?_)
          refine lv_iload_n hx hb dX4_advance_96 rfl (lv_at hl 0 rfl) ?_
          have hF : xAdvance g f a p1 = (r_28, g_33, f_33, a_33) := by
            unfold xAdvance
            refine (if_neg c_1).trans ?_
            refine (if_neg c_14).trans ?_
            rewrite [hB_27]
            dsimp only
            rewrite [hB_28]
            dsimp only
            rewrite [hB_29]
            dsimp only
            refine (if_neg c_30).trans ?_
            rewrite [hB_31]
            dsimp only
            refine (if_neg c_32).trans ?_
            rewrite [hB_33]
            rfl
          rw [hF]
          exact KC.reti hx hb hr hlocks hK hP hD hS dX4_advance_97 rfl
def xStep (g : Nat → Int32) (f : Nat → Int32) (a : Nat → Nat → Int32)  : Int32 × (Nat → Int32) × (Nat → Int32) × (Nat → Nat → Int32) :=
  (match xAdvance g f a (1 : Int32) with
  | (r_1, g_1, f_1, a_1) => (r_1, g_1, f_1, a_1))
set_option maxHeartbeats 4000000 in
set_option maxRecDepth 100000 in
theorem kX4_step (l : Launch) (D : va_G) (cI : ClassId) (o : Nat → Nat) (tS : Nat) (sc : Nat → Nat) (g : Nat → Int32) (f : Nat → Int32) (a : Nat → Nat → Int32)  : KG l yX4_step wsX4_step 7 tS sc [.ref (o 10)] D cI (wX cI o g f a) (wX cI o ((xStep g f a).2.1) ((xStep g f a).2.2.1) ((xStep g f a).2.2.2)) (some (.int (xStep g f a).1)) := by
  refine KG.of (cc := cX4_step) (maxL := 1) (by decide) rfl (Nat.le_of_ble_eq_true rfl) ?_
  intro p e s m below meth c A hx hb hr hts hown hlocks hml hK hP hD hS hA hG ls hl
  obtain ⟨hn97, hn101, hn104, hn107, hn121, hn131⟩ := hG.2.2.1
  have hl : lv_has ls 1 [(0, .ref (o 10))] := hl
  have hown : s.vm.findClass RX4 = some m.cls := hown
  refine lv_aload_n hx hb dX4_step_0 rfl (lv_at hl 0 rfl) ?_
  refine lv_iconst (v := 1) hx hb dX4_step_1 (by decide) ?_
  obtain ⟨r_1, g_1, f_1, a_1, hB_1⟩ := k_ex4 (xAdvance g f a (1 : Int32))
  have kc_1 := kX4_advance l D cI o tS sc g f a (1 : Int32)
  rw [hB_1] at kc_1; dsimp only at kc_1
  refine KG.calli (ci := 4) (rest := []) (wt := wX cI o g_1 f_1 a_1) (kc_1) (cwV 1 hts gX4_step_X4_advance rfl rfl rfl (by decide +kernel) ⟨Nat.le_of_ble_eq_true rfl, Nat.le_of_ble_eq_true rfl⟩) ⟨hx, hb, hml, hown, hts⟩ hK hP hD hS hA hG rfl rfl rfl [0, 1, 2, 3, 4, 5, 6, 7, 8, 9, 10] [] [0, 1, 2, 3, 4, 5, 6, 7, 8, 9, 10] (by decide) rfl (wr := []) rfl (by decide) (by decide) (by decide) rfl rfl hl.1 rfl (Nat.le_of_ble_eq_true rfl) dX4_step_2 ⟨Nat.zero_le _, Nat.zero_le _⟩ (fun H locs hP hD hS => ?_)
  have hF : xStep g f a = (r_1, g_1, f_1, a_1) := by
    unfold xStep
    rewrite [hB_1]
    rfl
  rw [hF]
  exact KC.reti hx hb hr hlocks hK hP hD hS dX4_step_5 rfl
def xReset (g : Nat → Int32) (f : Nat → Int32) (a : Nat → Nat → Int32)  : (Nat → Int32) × (Nat → Int32) × (Nat → Nat → Int32) :=
  (match xResetParts g f a with
  | (g_1, f_1, a_1) => (xBeginAnew g_1, f_1, a_1))
set_option maxHeartbeats 4000000 in
set_option maxRecDepth 100000 in
theorem kX4_reset (l : Launch) (D : va_G) (cI : ClassId) (o : Nat → Nat) (g : Nat → Int32) (f : Nat → Int32) (a : Nat → Nat → Int32)  : KC l yX4_reset wsX4_reset 2 [.ref (o 10)] D cI (wX cI o g f a) (wX cI o ((xReset g f a).1) ((xReset g f a).2.1) ((xReset g f a).2.2)) none := by
  refine KC.of (cc := cX4_reset) (maxL := 1) (by decide) rfl (Nat.le_of_ble_eq_true rfl) ?_
  intro p e s m below meth c A hx hb hr hts hown hlocks hml hK hP hD hS hA ls hl
  have hl : lv_has ls 1 [(0, .ref (o 10))] := hl
  have hown : s.vm.findClass RX4 = some m.cls := hown
  have hi4 : ∀ w ∈ u_ws RX4 TX4 4, w ∈ wsX4_reset := fun w h => List.mem_cons_of_mem _ (List.mem_append_left _ (List.mem_append_left _ (List.mem_append_left _ (List.mem_append_right _ h))))
  refine lv_aload_n hx hb dX4_reset_0 rfl (lv_at hl 0 rfl) ?_
  obtain ⟨g_1, f_1, a_1, hB_1⟩ := k_ex3 (xResetParts g f a)
  have kc_1 := kX4_resetParts l D cI o g f a
  rw [hB_1] at kc_1; dsimp only at kc_1
  refine KC.callv (ci := 4) (rest := []) (wt := wX cI o g_1 f_1 a_1) (kc_1) (cwV 0 hts gX4_reset_X4_resetParts rfl rfl rfl (by decide +kernel) ⟨Nat.le_of_ble_eq_true rfl, Nat.le_of_ble_eq_true rfl⟩) ⟨hx, hb, hml, hown, hts⟩ hK hP hD hS hA rfl rfl rfl [0, 1, 2, 3, 4, 5, 6, 7, 8, 9, 10] [] [0, 1, 2, 3, 4, 5, 6, 7, 8, 9, 10] (by decide) rfl (wr := []) rfl (by decide) (by decide) (by decide) rfl rfl hl.1 rfl (Nat.le_of_ble_eq_true rfl) dX4_reset_1 ⟨Nat.zero_le _, Nat.zero_le _⟩ (fun H locs hP hD hS => ?_)
  refine lv_aload_n hx hb dX4_reset_4 rfl (lv_at hl 0 rfl) ?_
  refine va_get (ci := 4) (v := .ref (o 9)) (C := RX4) (T := TX4) (N := 4) hx hb hts hi4 hown hK hP 0 rfl rfl 3 (by decide) (hts (.fieldLink RX4 35 "InvaderBoard" "frames" "LInvaderBoard$Frames;") (List.mem_cons_of_mem _ (List.mem_append_left _ (List.mem_append_left _ (List.mem_append_left _ (List.mem_append_left _ (List.mem_append_left _ (List.mem_of_getElem? (i := 0) rfl)))))))) (fun _ h9 => h9) rfl dX4_reset_5 ?_
  refine KC.callv (ci := 0) (rest := []) (wt := wX cI o (xBeginAnew g_1) f_1 a_1) (kX0_beginAnew l D cI o g_1) (cwV 0 hts gX4_reset_X0_beginAnew rfl rfl rfl (by decide +kernel) ⟨Nat.le_of_ble_eq_true rfl, Nat.le_of_ble_eq_true rfl⟩) ⟨hx, hb, hml, hown, hts⟩ hK hP hD hS hA rfl rfl rfl [1] [0, 2, 3, 4, 5, 6, 7, 8, 9, 10] [0, 10, 1, 2, 3, 4, 5, 6, 7, 8, 9] (by decide) rfl (wr := [_, _, _, _, _, _, _, _, _, _]) rfl (by decide) (by decide) (by decide) rfl rfl hl.1 rfl (Nat.le_of_ble_eq_true rfl) dX4_reset_8 ⟨Nat.zero_le _, Nat.zero_le _⟩ (fun H locs hP hD hS => ?_)
  have hF : xReset g f a = (xBeginAnew g_1, f_1, a_1) := by
    unfold xReset
    rewrite [hB_1]
    rfl
  rw [hF]
  exact KC.retv hx hb hr hlocks hK hP hD hS dX4_reset_11
def xMemory (g : Nat → Int32) (f : Nat → Int32) (a : Nat → Nat → Int32) (p1 : Int32) : Int32 :=
  xRead a p1
set_option maxHeartbeats 4000000 in
set_option maxRecDepth 100000 in
theorem kX4_memory (l : Launch) (D : va_G) (cI : ClassId) (o : Nat → Nat) (g : Nat → Int32) (f : Nat → Int32) (a : Nat → Nat → Int32) (p1 : Int32) : KC l yX4_memory wsX4_memory 1 [.ref (o 10), .int p1] D cI (wX cI o g f a) (wX cI o g f a) (some (.int (xMemory g f a p1))) := by
  refine KC.of (cc := cX4_memory) (maxL := 2) (by decide) rfl (Nat.le_of_ble_eq_true rfl) ?_
  intro p e s m below meth c A hx hb hr hts hown hlocks hml hK hP hD hS hA ls hl
  have hl : lv_has ls 2 [(0, .ref (o 10)), (1, .int p1)] := hl
  have hown : s.vm.findClass RX4 = some m.cls := hown
  have hi4 : ∀ w ∈ u_ws RX4 TX4 4, w ∈ wsX4_memory := fun w h => List.mem_cons_of_mem _ (List.mem_append_left _ (List.mem_append_right _ h))
  refine lv_aload_n hx hb dX4_memory_0 rfl (lv_at hl 0 rfl) ?_
  refine va_get (ci := 4) (v := .ref (o 2)) (C := RX4) (T := TX4) (N := 4) hx hb hts hi4 hown hK hP 0 rfl rfl 0 (by decide) (hts (.fieldLink RX4 10 "InvaderBoard" "store" "LInvaderBoard$Memory;") (List.mem_cons_of_mem _ (List.mem_append_left _ (List.mem_append_left _ (List.mem_of_getElem? (i := 0) rfl))))) (fun _ h9 => h9) rfl dX4_memory_1 ?_
  refine lv_iload_n hx hb dX4_memory_4 rfl (lv_at hl 1 rfl) ?_
  refine KC.calli (ci := 1) (rest := []) (wt := wX cI o g f a) (kX1_read l D cI o a p1) (cwV 1 hts gX4_memory_X1_read rfl rfl rfl (by decide +kernel) ⟨Nat.le_of_ble_eq_true rfl, Nat.le_of_ble_eq_true rfl⟩) ⟨hx, hb, hml, hown, hts⟩ hK hP hD hS hA rfl rfl rfl [4, 5, 6] [0, 1, 2, 3, 7, 8, 9, 10] [0, 1, 2, 3, 8, 9, 10, 4, 5, 6, 7] (by decide) rfl (wr := [_, _, _, _, _, _, _, _]) rfl (by decide) (by decide) (by decide) rfl rfl hl.1 rfl (Nat.le_of_ble_eq_true rfl) dX4_memory_5 ⟨Nat.zero_le _, Nat.zero_le _⟩ (fun H locs hP hD hS => ?_)
  have hF : xMemory g f a p1 = xRead a p1 := rfl
  rw [hF]
  exact KC.reti hx hb hr hlocks hK hP hD hS dX4_memory_8 rfl
def xPoke (g : Nat → Int32) (f : Nat → Int32) (a : Nat → Nat → Int32) (p1 : Int32) (p2 : Int32) : Int32 × (Nat → Int32) :=
  (xRead (ua a 1 (xWrite a p1 p2)) p1, xWrite a p1 p2)
set_option maxHeartbeats 4000000 in
set_option maxRecDepth 100000 in
theorem kX4_poke (l : Launch) (D : va_G) (cI : ClassId) (o : Nat → Nat) (g : Nat → Int32) (f : Nat → Int32) (a : Nat → Nat → Int32) (p1 : Int32) (p2 : Int32) : KC l yX4_poke wsX4_poke 1 [.ref (o 10), .int p1, .int p2] D cI (wX cI o g f a) (wX cI o g f (ua a 1 ((xPoke g f a p1 p2).2))) (some (.int (xPoke g f a p1 p2).1)) := by
  refine KC.of (cc := cX4_poke) (maxL := 3) (by decide) rfl (Nat.le_of_ble_eq_true rfl) ?_
  intro p e s m below meth c A hx hb hr hts hown hlocks hml hK hP hD hS hA ls hl
  have hl : lv_has ls 3 [(0, .ref (o 10)), (1, .int p1), (2, .int p2)] := hl
  have hown : s.vm.findClass RX4 = some m.cls := hown
  have hi4 : ∀ w ∈ u_ws RX4 TX4 4, w ∈ wsX4_poke := fun w h => List.mem_cons_of_mem _ (List.mem_append_left _ (List.mem_append_right _ h))
  refine lv_aload_n hx hb dX4_poke_0 rfl (lv_at hl 0 rfl) ?_
  refine va_get (ci := 4) (v := .ref (o 2)) (C := RX4) (T := TX4) (N := 4) hx hb hts hi4 hown hK hP 0 rfl rfl 0 (by decide) (hts (.fieldLink RX4 10 "InvaderBoard" "store" "LInvaderBoard$Memory;") (List.mem_cons_of_mem _ (List.mem_append_left _ (List.mem_append_left _ (List.mem_of_getElem? (i := 0) rfl))))) (fun _ h9 => h9) rfl dX4_poke_1 ?_
  refine lv_iload_n hx hb dX4_poke_4 rfl (lv_at hl 1 rfl) ?_
  refine lv_iload_n hx hb dX4_poke_5 rfl (lv_at hl 2 rfl) ?_
  refine KC.callv (ci := 1) (rest := []) (wt := wX cI o g f (ua a 1 (xWrite a p1 p2))) (kX1_write l D cI o a p1 p2) (cwV 2 hts gX4_poke_X1_write rfl rfl rfl (by decide +kernel) ⟨Nat.le_of_ble_eq_true rfl, Nat.le_of_ble_eq_true rfl⟩) ⟨hx, hb, hml, hown, hts⟩ hK hP hD hS hA rfl rfl rfl [4, 5, 6] [0, 1, 2, 3, 7, 8, 9, 10] [0, 1, 2, 3, 8, 9, 10, 4, 5, 6, 7] (by decide) rfl (wr := [_, _, _, _, _, _, _, _]) rfl (by decide) (by decide) (by decide) rfl rfl hl.1 rfl (Nat.le_of_ble_eq_true rfl) dX4_poke_6 ⟨Nat.zero_le _, Nat.zero_le _⟩ (fun H locs hP hD hS => ?_)
  refine lv_aload_n hx hb dX4_poke_9 rfl (lv_at hl 0 rfl) ?_
  refine va_get (ci := 4) (v := .ref (o 2)) (C := RX4) (T := TX4) (N := 4) hx hb hts hi4 hown hK hP 0 rfl rfl 0 (by decide) (hts (.fieldLink RX4 10 "InvaderBoard" "store" "LInvaderBoard$Memory;") (List.mem_cons_of_mem _ (List.mem_append_left _ (List.mem_append_left _ (List.mem_of_getElem? (i := 0) rfl))))) (fun _ h9 => h9) rfl dX4_poke_10 ?_
  refine lv_iload_n hx hb dX4_poke_13 rfl (lv_at hl 1 rfl) ?_
  refine KC.calli (ci := 1) (rest := []) (wt := wX cI o g f (ua a 1 (xWrite a p1 p2))) (kX1_read l D cI o (ua a 1 (xWrite a p1 p2)) p1) (cwV 1 hts gX4_poke_X1_read rfl rfl rfl (by decide +kernel) ⟨Nat.le_of_ble_eq_true rfl, Nat.le_of_ble_eq_true rfl⟩) ⟨hx, hb, hml, hown, hts⟩ hK hP hD hS hA rfl rfl rfl [4, 5, 6] [0, 1, 2, 3, 7, 8, 9, 10] [0, 1, 2, 3, 8, 9, 10, 4, 5, 6, 7] (by decide) rfl (wr := [_, _, _, _, _, _, _, _]) rfl (by decide) (by decide) (by decide) rfl rfl hl.1 rfl (Nat.le_of_ble_eq_true rfl) dX4_poke_14 ⟨Nat.zero_le _, Nat.zero_le _⟩ (fun H locs hP hD hS => ?_)
  have hF : xPoke g f a p1 p2 = (xRead (ua a 1 (xWrite a p1 p2)) p1, xWrite a p1 p2) := rfl
  rw [hF]
  exact KC.reti hx hb hr hlocks hK hP hD hS dX4_poke_17 rfl
