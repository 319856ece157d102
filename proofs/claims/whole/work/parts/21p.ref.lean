def rOne (f : Nat → Int32) (a : Nat → Nat → Int32)  : Int32 × (Nat → Int32) × (Nat → Nat → Int32) :=
  (match rNext f a with
  | (r_1, f_1) => if r_1 = (118 : Int32) then ((7 : Int32), upd f_1 4 (1 : Int32), a)
    else if r_1 >>> ((6 : Int32) &&& 31) = (1 : Int32) then if (r_1 >>> ((3 : Int32) &&& 31)) &&& (7 : Int32) = (6 : Int32) then ((7 : Int32), f_1, rSet f_1 a ((r_1 >>> ((3 : Int32) &&& 31)) &&& (7 : Int32)) (rGet f_1 a (r_1 &&& (7 : Int32))))
        else if r_1 &&& (7 : Int32) = (6 : Int32) then ((7 : Int32), f_1, rSet f_1 a ((r_1 >>> ((3 : Int32) &&& 31)) &&& (7 : Int32)) (rGet f_1 a (r_1 &&& (7 : Int32))))
          else ((5 : Int32), f_1, rSet f_1 a ((r_1 >>> ((3 : Int32) &&& 31)) &&& (7 : Int32)) (rGet f_1 a (r_1 &&& (7 : Int32))))
      else if r_1 >>> ((6 : Int32) &&& 31) = (2 : Int32) then (match rAlu f_1 a ((r_1 >>> ((3 : Int32) &&& 31)) &&& (7 : Int32)) (rGet f_1 a (r_1 &&& (7 : Int32))) with
          | (f_8, a_8) => if r_1 &&& (7 : Int32) = (6 : Int32) then ((7 : Int32), f_8, a_8)
            else ((4 : Int32), f_8, a_8))
        else if r_1 >>> ((6 : Int32) &&& 31) = 0 then (match rLow f_1 a ((r_1 >>> ((3 : Int32) &&& 31)) &&& (7 : Int32)) (r_1 &&& (7 : Int32)) with
            | (r_7, f_7, a_7) => (r_7, f_7, a_7))
          else (match rHigh f_1 a ((r_1 >>> ((3 : Int32) &&& 31)) &&& (7 : Int32)) (r_1 &&& (7 : Int32)) with
            | (r_6, f_6, a_6) => (r_6, f_6, a_6)))
set_option maxHeartbeats 4000000 in
set_option maxRecDepth 100000 in
theorem kX5_one (l : Launch) (D : va_G) (cI : ClassId) (o : Nat → Nat) (f : Nat → Int32) (a : Nat → Nat → Int32)  (hR : ∀ q : Int32, ¬ rRead f a q < 0) : KC l yX5_one wsX5_one 5 [.ref (o 20)] D cI (wR cI o f a) (wR cI o ((rOne f a).2.1) ((rOne f a).2.2)) (some (.int (rOne f a).1)) := by
  refine KC.of (cc := cX5_one) (maxL := 5) (by decide) rfl (Nat.le_of_ble_eq_true rfl) ?_
  intro p e s m below meth c A hx hb hr hts hown hlocks hml hK hP hD hS hA ls hl
  have hl : lv_has ls 5 [(0, .ref (o 20))] := hl
  have hown : s.vm.findClass RX5 = some m.cls := hown
  have hi5 : ∀ w ∈ u_ws RX5 TX5 24, w ∈ wsX5_one := fun w h => List.mem_cons_of_mem _ (List.mem_append_right _ h)
  refine lv_aload_n hx hb dX5_one_0 rfl (lv_at hl 0 rfl) ?_
  obtain ⟨r_1, f_1, hB_1⟩ := k_ex2 (rNext f a)
  have kc_1 := kX5_next l D cI o f a
  rw [hB_1] at kc_1; dsimp only at kc_1
  refine KC.calli (ci := 5) (rest := []) (wt := wR cI o f_1 a) (kc_1) (cwV 0 hts gX5_one_X5_next rfl rfl rfl (by decide +kernel) ⟨Nat.le_of_ble_eq_true rfl, Nat.le_of_ble_eq_true rfl⟩) ⟨hx, hb, hml, hown, hts⟩ hK hP hD hS hA rfl rfl rfl [0, 1, 2, 3, 4, 5, 6] [] [0, 1, 2, 3, 4, 5, 6] (by decide) rfl (wr := []) rfl (by decide) (by decide) (by decide) rfl rfl hl.1 rfl (Nat.le_of_ble_eq_true rfl) dX5_one_1 ⟨Nat.zero_le _, Nat.zero_le _⟩ (fun H locs hP hD hS => ?_)
  refine lv_istore_n (lv' := [(1, .int _), (0, .ref _)]) hx hb dX5_one_4 rfl hl (by decide) rfl (fun ls hl => ?_)
  refine lv_iload_n hx hb dX5_one_5 rfl (lv_at hl 0 rfl) ?_
  refine lv_bipush (v := 6) hx hb dX5_one_6 (by decide) ?_
  refine lv_ishr hx hb dX5_one_8 ?_
  refine lv_istore_n (lv' := [(2, .int _), (1, .int _), (0, .ref _)]) hx hb dX5_one_9 rfl hl (by decide) rfl (fun ls hl => ?_)
  refine lv_iload_n hx hb dX5_one_10 rfl (lv_at hl 1 rfl) ?_
  refine lv_iconst (v := 3) hx hb dX5_one_11 (by decide) ?_
  refine lv_ishr hx hb dX5_one_12 ?_
  refine lv_bipush (v := 7) hx hb dX5_one_13 (by decide) ?_
  refine lv_iand hx hb dX5_one_15 ?_
  refine lv_istore_n (lv' := [(3, .int _), (2, .int _), (1, .int _), (0, .ref _)]) hx hb dX5_one_16 rfl hl (by decide) rfl (fun ls hl => ?_)
  refine lv_iload_n hx hb dX5_one_17 rfl (lv_at hl 2 rfl) ?_
  refine lv_bipush (v := 7) hx hb dX5_one_18 (by decide) ?_
  refine lv_iand hx hb dX5_one_20 ?_
  refine lv_istore (lv' := [(4, .int _), (3, .int _), (2, .int _), (1, .int _), (0, .ref _)]) hx hb dX5_one_21 hl (by decide) rfl (fun ls hl => ?_)
  refine lv_iload_n hx hb dX5_one_23 rfl (lv_at hl 3 rfl) ?_
  refine lv_bipush (v := 118) hx hb dX5_one_24 (by decide) ?_
  refine lv_icmp_ne (tgt := 37) hx hb dX5_one_26 (by decide) (fun c_2 => ?_) (fun c_2 => ?_)
  · refine lv_iload_n hx hb dX5_one_37 rfl (lv_at hl 2 rfl) ?_
    refine lv_iconst (v := 1) hx hb dX5_one_38 (by decide) ?_
    refine lv_icmp_ne (tgt := 73) hx hb dX5_one_39 (by decide) (fun c_3 => ?_) (fun c_3 => ?_)
    · refine lv_iload_n hx hb dX5_one_73 rfl (lv_at hl 2 rfl) ?_
      refine lv_iconst (v := 2) hx hb dX5_one_74 (by decide) ?_
      refine lv_icmp_ne (tgt := 103) hx hb dX5_one_75 (by decide) (fun c_4 => ?_) (fun c_4 => ?_)
      · refine lv_iload_n hx hb dX5_one_103 rfl (lv_at hl 2 rfl) ?_
        refine lv_if_ne (tgt := 117) hx hb dX5_one_104 (by decide) (fun c_5 => ?_) (fun c_5 => ?_)
        · refine lv_aload_n hx hb dX5_one_117 rfl (lv_at hl 4 rfl) ?_
          refine lv_iload_n hx hb dX5_one_118 rfl (lv_at hl 1 rfl) ?_
          refine lv_iload hx hb dX5_one_119 (lv_at hl 0 rfl) ?_
          obtain ⟨r_6, f_6, a_6, hB_6⟩ := k_ex3 (rHigh f_1 a ((r_1 >>> ((3 : Int32) &&& 31)) &&& (7 : Int32)) (r_1 &&& (7 : Int32)))
          have kc_6 := kX5_high l D cI o f_1 a ((r_1 >>> ((3 : Int32) &&& 31)) &&& (7 : Int32)) (r_1 &&& (7 : Int32)) (pk_andIn _ 3 (by decide) (by decide)) hR
          rw [hB_6] at kc_6; dsimp only at kc_6
          refine KC.calli (ci := 5) (rest := []) (wt := wR cI o f_6 a_6) (kc_6) (cwV 2 hts gX5_one_X5_high rfl rfl rfl (by decide +kernel) ⟨Nat.le_of_ble_eq_true rfl, Nat.le_of_ble_eq_true rfl⟩) ⟨hx, hb, hml, hown, hts⟩ hK hP hD hS hA rfl rfl rfl [0, 1, 2, 3, 4, 5, 6] [] [0, 1, 2, 3, 4, 5, 6] (by decide) rfl (wr := []) rfl (by decide) (by decide) (by decide) rfl rfl hl.1 rfl (Nat.le_of_ble_eq_true rfl) dX5_one_121 ⟨Nat.zero_le _, Nat.zero_le _⟩ (fun H locs hP hD hS => ?_)
          have hF : rOne f a = (r_6, f_6, a_6) := by
            unfold rOne
            rewrite [hB_1]
            dsimp only
            refine (if_neg c_2).trans ?_
            refine (if_neg c_3).trans ?_
            refine (if_neg c_4).trans ?_
            refine (if_neg c_5).trans ?_
            rewrite [hB_6]
            rfl
          rw [hF]
          exact KC.reti hx hb hr hlocks hK hP hD hS dX5_one_124 rfl
        · refine lv_aload_n hx hb dX5_one_107 rfl (lv_at hl 4 rfl) ?_
          refine lv_iload_n hx hb dX5_one_108 rfl (lv_at hl 1 rfl) ?_
          refine lv_iload hx hb dX5_one_109 (lv_at hl 0 rfl) ?_
          obtain ⟨r_7, f_7, a_7, hB_7⟩ := k_ex3 (rLow f_1 a ((r_1 >>> ((3 : Int32) &&& 31)) &&& (7 : Int32)) (r_1 &&& (7 : Int32)))
          have kc_7 := kX5_low l D cI o f_1 a ((r_1 >>> ((3 : Int32) &&& 31)) &&& (7 : Int32)) (r_1 &&& (7 : Int32)) (pk_andIn _ 3 (by decide) (by decide))
          rw [hB_7] at kc_7; dsimp only at kc_7
          refine KC.calli (ci := 5) (rest := []) (wt := wR cI o f_7 a_7) (kc_7) (cwV 2 hts gX5_one_X5_low rfl rfl rfl (by decide +kernel) ⟨Nat.le_of_ble_eq_true rfl, Nat.le_of_ble_eq_true rfl⟩) ⟨hx, hb, hml, hown, hts⟩ hK hP hD hS hA rfl rfl rfl [0, 1, 2, 3, 4, 5, 6] [] [0, 1, 2, 3, 4, 5, 6] (by decide) rfl (wr := []) rfl (by decide) (by decide) (by decide) rfl rfl hl.1 rfl (Nat.le_of_ble_eq_true rfl) dX5_one_111 ⟨Nat.zero_le _, Nat.zero_le _⟩ (fun H locs hP hD hS => ?_)
          refine lv_goto (tgt := 124) hx hb dX5_one_114 (by decide) ?_
          have hF : rOne f a = (r_7, f_7, a_7) := by
            unfold rOne
            rewrite [hB_1]
            dsimp only
            refine (if_neg c_2).trans ?_
            refine (if_neg c_3).trans ?_
            refine (if_neg c_4).trans ?_
            refine (if_pos c_5).trans ?_
            rewrite [hB_7]
            rfl
          rw [hF]
          exact KC.reti hx hb hr hlocks hK hP hD hS dX5_one_124 rfl
      · refine lv_aload_n hx hb dX5_one_78 rfl (lv_at hl 4 rfl) ?_
        refine lv_iload_n hx hb dX5_one_79 rfl (lv_at hl 1 rfl) ?_
        refine lv_aload_n hx hb dX5_one_80 rfl (lv_at hl 4 rfl) ?_
        refine lv_iload hx hb dX5_one_81 (lv_at hl 0 rfl) ?_
        refine KC.calli (ci := 5) (rest := [.int ((r_1 >>> ((3 : Int32) &&& 31)) &&& (7 : Int32)), .ref (o 20)]) (wt := wR cI o f_1 a) (kX5_get l D cI o f_1 a (r_1 &&& (7 : Int32)) (pk_andIn _ 3 (by decide) (by decide))) (cwV 1 hts gX5_one_X5_get rfl rfl rfl (by decide +kernel) ⟨Nat.le_of_ble_eq_true rfl, Nat.le_of_ble_eq_true rfl⟩) ⟨hx, hb, hml, hown, hts⟩ hK hP hD hS hA rfl rfl rfl [0, 1, 2, 3, 4, 5, 6] [] [0, 1, 2, 3, 4, 5, 6] (by decide) rfl (wr := []) rfl (by decide) (by decide) (by decide) rfl rfl hl.1 rfl (Nat.le_of_ble_eq_true rfl) dX5_one_83 ⟨Nat.zero_le _, Nat.zero_le _⟩ (fun H locs hP hD hS => ?_)
        obtain ⟨f_8, a_8, hB_8⟩ := k_ex2 (rAlu f_1 a ((r_1 >>> ((3 : Int32) &&& 31)) &&& (7 : Int32)) (rGet f_1 a (r_1 &&& (7 : Int32))))
        have kc_8 := kX5_alu l D cI o f_1 a ((r_1 >>> ((3 : Int32) &&& 31)) &&& (7 : Int32)) (rGet f_1 a (r_1 &&& (7 : Int32)))
        rw [hB_8] at kc_8; dsimp only at kc_8
        refine KC.callv (ci := 5) (rest := []) (wt := wR cI o f_8 a_8) (kc_8) (cwV 2 hts gX5_one_X5_alu rfl rfl rfl (by decide +kernel) ⟨Nat.le_of_ble_eq_true rfl, Nat.le_of_ble_eq_true rfl⟩) ⟨hx, hb, hml, hown, hts⟩ hK hP hD hS hA rfl rfl rfl [0, 1, 2, 3, 4, 5, 6] [] [0, 1, 2, 3, 4, 5, 6] (by decide) rfl (wr := []) rfl (by decide) (by decide) (by decide) rfl rfl hl.1 rfl (Nat.le_of_ble_eq_true rfl) dX5_one_86 ⟨Nat.zero_le _, Nat.zero_le _⟩ (fun H locs hP hD hS => ?_)
        refine lv_iload hx hb dX5_one_89 (lv_at hl 0 rfl) ?_
        refine lv_bipush (v := 6) hx hb dX5_one_91 (by decide) ?_
        refine lv_icmp_ne (tgt := 101) hx hb dX5_one_93 (by decide) (fun c_9 => ?_) (fun c_9 => ?_)
        · refine lv_iconst (v := 4) hx hb dX5_one_101 (by decide) ?_
          have hF : rOne f a = ((4 : Int32), f_8, a_8) := by
            unfold rOne
            rewrite [hB_1]
            dsimp only
            refine (if_neg c_2).trans ?_
            refine (if_neg c_3).trans ?_
            refine (if_pos c_4).trans ?_
            rewrite [hB_8]
            dsimp only
            refine (if_neg c_9).trans ?_
            rfl
          rw [hF]
          exact KC.reti hx hb hr hlocks hK hP hD hS dX5_one_102 rfl
        · refine lv_bipush (v := 7) hx hb dX5_one_96 (by decide) ?_
          refine lv_goto (tgt := 102) hx hb dX5_one_98 (by decide) ?_
          have hF : rOne f a = ((7 : Int32), f_8, a_8) := by
            unfold rOne
            rewrite [hB_1]
            dsimp only
            refine (if_neg c_2).trans ?_
            refine (if_neg c_3).trans ?_
            refine (if_pos c_4).trans ?_
            rewrite [hB_8]
            dsimp only
            refine (if_pos c_9).trans ?_
            rfl
          rw [hF]
          exact KC.reti hx hb hr hlocks hK hP hD hS dX5_one_102 rfl
    · refine lv_aload_n hx hb dX5_one_42 rfl (lv_at hl 4 rfl) ?_
      refine lv_iload_n hx hb dX5_one_43 rfl (lv_at hl 1 rfl) ?_
      refine lv_aload_n hx hb dX5_one_44 rfl (lv_at hl 4 rfl) ?_
      refine lv_iload hx hb dX5_one_45 (lv_at hl 0 rfl) ?_
      refine KC.calli (ci := 5) (rest := [.int ((r_1 >>> ((3 : Int32) &&& 31)) &&& (7 : Int32)), .ref (o 20)]) (wt := wR cI o f_1 a) (kX5_get l D cI o f_1 a (r_1 &&& (7 : Int32)) (pk_andIn _ 3 (by decide) (by decide))) (cwV 1 hts gX5_one_X5_get rfl rfl rfl (by decide +kernel) ⟨Nat.le_of_ble_eq_true rfl, Nat.le_of_ble_eq_true rfl⟩) ⟨hx, hb, hml, hown, hts⟩ hK hP hD hS hA rfl rfl rfl [0, 1, 2, 3, 4, 5, 6] [] [0, 1, 2, 3, 4, 5, 6] (by decide) rfl (wr := []) rfl (by decide) (by decide) (by decide) rfl rfl hl.1 rfl (Nat.le_of_ble_eq_true rfl) dX5_one_47 ⟨Nat.zero_le _, Nat.zero_le _⟩ (fun H locs hP hD hS => ?_)
      refine KC.callv (ci := 5) (rest := []) (wt := wR cI o f_1 (rSet f_1 a ((r_1 >>> ((3 : Int32) &&& 31)) &&& (7 : Int32)) (rGet f_1 a (r_1 &&& (7 : Int32))))) (kX5_set l D cI o f_1 a ((r_1 >>> ((3 : Int32) &&& 31)) &&& (7 : Int32)) (rGet f_1 a (r_1 &&& (7 : Int32))) (pk_andIn _ 3 (by decide) (by decide))) (cwV 2 hts gX5_one_X5_set rfl rfl rfl (by decide +kernel) ⟨Nat.le_of_ble_eq_true rfl, Nat.le_of_ble_eq_true rfl⟩) ⟨hx, hb, hml, hown, hts⟩ hK hP hD hS hA rfl rfl rfl [0, 1, 2, 3, 4, 5, 6] [] [0, 1, 2, 3, 4, 5, 6] (by decide) rfl (wr := []) rfl (by decide) (by decide) (by decide) rfl rfl hl.1 rfl (Nat.le_of_ble_eq_true rfl) dX5_one_50 ⟨Nat.zero_le _, Nat.zero_le _⟩ (fun H locs hP hD hS => ?_)
      refine lv_iload_n hx hb dX5_one_53 rfl (lv_at hl 1 rfl) ?_
      refine lv_bipush (v := 6) hx hb dX5_one_54 (by decide) ?_
      refine lv_icmp_eq (tgt := 66) hx hb dX5_one_56 (by decide) (fun c_10 => ?_) (fun c_10 => ?_)
      · refine lv_bipush (v := 7) hx hb dX5_one_66 (by decide) ?_
        refine lv_goto (tgt := 72) hx hb dX5_one_68 (by decide) ?_
        have hF : rOne f a = ((7 : Int32), f_1, rSet f_1 a ((r_1 >>> ((3 : Int32) &&& 31)) &&& (7 : Int32)) (rGet f_1 a (r_1 &&& (7 : Int32)))) := by
          unfold rOne
          rewrite [hB_1]
          dsimp only
          refine (if_neg c_2).trans ?_
          refine (if_pos c_3).trans ?_
          refine (if_pos c_10).trans ?_
          rfl
        rw [hF]
        exact KC.reti hx hb hr hlocks hK hP hD hS dX5_one_72 rfl
      · refine lv_iload hx hb dX5_one_59 (lv_at hl 0 rfl) ?_
        refine lv_bipush (v := 6) hx hb dX5_one_61 (by decide) ?_
        refine lv_icmp_ne (tgt := 71) hx hb dX5_one_63 (by decide) (fun c_11 => ?_) (fun c_11 => ?_)
        · refine lv_iconst (v := 5) hx hb dX5_one_71 (by decide) ?_
          have hF : rOne f a = ((5 : Int32), f_1, rSet f_1 a ((r_1 >>> ((3 : Int32) &&& 31)) &&& (7 : Int32)) (rGet f_1 a (r_1 &&& (7 : Int32)))) := by
            unfold rOne
            rewrite [hB_1]
            dsimp only
            refine (if_neg c_2).trans ?_
            refine (if_pos c_3).trans ?_
            refine (if_neg c_10).trans ?_
            refine (if_neg c_11).trans ?_
            rfl
          rw [hF]
          exact KC.reti hx hb hr hlocks hK hP hD hS dX5_one_72 rfl
        · refine lv_bipush (v := 7) hx hb dX5_one_66 (by decide) ?_
          refine lv_goto (tgt := 72) hx hb dX5_one_68 (by decide) ?_
          have hF : rOne f a = ((7 : Int32), f_1, rSet f_1 a ((r_1 >>> ((3 : Int32) &&& 31)) &&& (7 : Int32)) (rGet f_1 a (r_1 &&& (7 : Int32)))) := by
            unfold rOne
            rewrite [hB_1]
            dsimp only
            refine (if_neg c_2).trans ?_
            refine (if_pos c_3).trans ?_
            refine (if_neg c_10).trans ?_
            refine (if_pos c_11).trans ?_
            rfl
          rw [hF]
          exact KC.reti hx hb hr hlocks hK hP hD hS dX5_one_72 rfl
  · refine lv_aload_n hx hb dX5_one_29 rfl (lv_at hl 4 rfl) ?_
    refine lv_iconst (v := 1) hx hb dX5_one_30 (by decide) ?_
    refine pu_R_f4 (v := (1 : Int32)) hx hb hts hi5 hown hK hP hD hS (hts (.fieldLink RX5 82 "InvaderBoardModel" "halted" "Z") (List.mem_cons_of_mem _ (List.mem_append_left _ (List.mem_append_left _ (List.mem_of_getElem? (i := 0) rfl))))) (by decide +kernel) (by decide +kernel) dX5_one_31 (fun H locs hP hD hS => ?_)
    refine lv_bipush (v := 7) hx hb dX5_one_34 (by decide) ?_
    have hF : rOne f a = ((7 : Int32), upd f_1 4 (1 : Int32), a) := by
      unfold rOne
      rewrite [hB_1]
      dsimp only
      refine (if_pos c_2).trans ?_
      rfl
    rw [hF]
    exact KC.reti hx hb hr hlocks hK hP hD hS dX5_one_36 rfl
