def rTurn (f : Nat → Int32) (a : Nat → Nat → Int32) (p1 : Int32) : (Nat → Int32) × (Nat → Nat → Int32) :=
  if p1 = 0 then (upd f 16 (((a 2) (7 : Int32).toNatClampNeg) >>> ((7 : Int32) &&& 31)), ua a 2 (upd (a 2) (7 : Int32).toNatClampNeg (((((a 2) (7 : Int32).toNatClampNeg) <<< ((1 : Int32) &&& 31)) &&& (254 : Int32)) ||| (((a 2) (7 : Int32).toNatClampNeg) >>> ((7 : Int32) &&& 31)))))
  else if p1 = (2 : Int32) then (upd f 16 (((a 2) (7 : Int32).toNatClampNeg) >>> ((7 : Int32) &&& 31)), ua a 2 (upd (a 2) (7 : Int32).toNatClampNeg (((((a 2) (7 : Int32).toNatClampNeg) <<< ((1 : Int32) &&& 31)) &&& (254 : Int32)) ||| (f 16))))
    else if p1 = (1 : Int32) then (upd f 16 (((a 2) (7 : Int32).toNatClampNeg) &&& (1 : Int32)), ua a 2 (upd (a 2) (7 : Int32).toNatClampNeg ((((a 2) (7 : Int32).toNatClampNeg) >>> ((1 : Int32) &&& 31)) ||| ((((a 2) (7 : Int32).toNatClampNeg) &&& (1 : Int32)) <<< ((7 : Int32) &&& 31)))))
      else if p1 = (3 : Int32) then (upd f 16 (((a 2) (7 : Int32).toNatClampNeg) &&& (1 : Int32)), ua a 2 (upd (a 2) (7 : Int32).toNatClampNeg ((((a 2) (7 : Int32).toNatClampNeg) >>> ((1 : Int32) &&& 31)) ||| ((f 16) <<< ((7 : Int32) &&& 31)))))
        else if p1 = (4 : Int32) then (match rAdjust f a with
            | (f_10, a_10) => (f_10, a_10))
          else if p1 = (5 : Int32) then (f, ua a 2 (upd (a 2) (7 : Int32).toNatClampNeg ((((a 2) (7 : Int32).toNatClampNeg) ^^^ (-1 : Int32)) &&& (255 : Int32))))
            else if p1 = (6 : Int32) then (upd f 16 (1 : Int32), a)
              else (upd f 16 ((1 : Int32) - (f 16)), a)
set_option maxHeartbeats 4000000 in
set_option maxRecDepth 100000 in
theorem kX5_turn (l : Launch) (D : va_G) (cI : ClassId) (o : Nat → Nat) (f : Nat → Int32) (a : Nat → Nat → Int32) (p1 : Int32) : KC l yX5_turn wsX5_turn 2 [.ref (o 20), .int p1] D cI (wR cI o f a) (wR cI o ((rTurn f a p1).1) ((rTurn f a p1).2)) none := by
  refine KC.of (cc := cX5_turn) (maxL := 3) (by decide) rfl (Nat.le_of_ble_eq_true rfl) ?_
  intro p e s m below meth c A hx hb hr hts hown hlocks hml hK hP hD hS hA ls hl
  have hl : lv_has ls 3 [(0, .ref (o 20)), (1, .int p1)] := hl
  have hown : s.vm.findClass RX5 = some m.cls := hown
  have hi5 : ∀ w ∈ u_ws RX5 TX5 24, w ∈ wsX5_turn := fun w h => List.mem_cons_of_mem _ (List.mem_append_right _ h)
  refine lv_aload_n hx hb dX5_turn_0 rfl (lv_at hl 0 rfl) ?_
  refine va_get (ci := 5) (v := .ref (o 23)) (C := RX5) (T := TX5) (N := 24) hx hb hts hi5 hown hK hP 0 rfl rfl 3 (by decide) (hts (.fieldLink RX5 16 "InvaderBoardModel" "reg" "[I") (List.mem_cons_of_mem _ (List.mem_append_left _ (List.mem_of_getElem? (i := 0) rfl)))) (fun _ h9 => h9) rfl dX5_turn_1 ?_
  refine lv_bipush (v := 7) hx hb dX5_turn_4 (by decide) ?_
  refine va_iald (f := a 2) hx hb hK hP 3 0 rfl rfl (by unfold vp_in; decide) dX5_turn_6 ?_
  refine lv_istore_n (lv' := [(2, .int _), (0, .ref _), (1, .int _)]) hx hb dX5_turn_7 rfl hl (by decide) rfl (fun ls hl => ?_)
  refine lv_iload_n hx hb dX5_turn_8 rfl (lv_at hl 2 rfl) ?_
  refine lv_if_eq (tgt := 17) hx hb dX5_turn_9 (by decide) (fun c_1 => ?_) (fun c_1 => ?_)
  · refine lv_aload_n hx hb dX5_turn_17 rfl (lv_at hl 1 rfl) ?_
    refine va_get (ci := 5) (v := .ref (o 23)) (C := RX5) (T := TX5) (N := 24) hx hb hts hi5 hown hK hP 0 rfl rfl 3 (by decide) (hts (.fieldLink RX5 16 "InvaderBoardModel" "reg" "[I") (List.mem_cons_of_mem _ (List.mem_append_left _ (List.mem_of_getElem? (i := 0) rfl)))) (fun _ h9 => h9) rfl dX5_turn_18 ?_
    refine lv_bipush (v := 7) hx hb dX5_turn_21 (by decide) ?_
    refine lv_iload_n hx hb dX5_turn_23 rfl (lv_at hl 0 rfl) ?_
    refine lv_iconst (v := 1) hx hb dX5_turn_24 (by decide) ?_
    refine lv_ishl hx hb dX5_turn_25 ?_
    refine lv_sipush (v := 254) hx hb dX5_turn_26 (by decide) ?_
    refine lv_iand hx hb dX5_turn_29 ?_
    refine lv_iload_n hx hb dX5_turn_30 rfl (lv_at hl 2 rfl) ?_
    refine lv_if_ne (tgt := 41) hx hb dX5_turn_31 (by decide) (fun c_2 => ?_) (fun c_2 => ?_)
    · exact absurd c_1 c_2
    · refine lv_iload_n hx hb dX5_turn_34 rfl (lv_at hl 0 rfl) ?_
      refine lv_bipush (v := 7) hx hb dX5_turn_35 (by decide) ?_
      refine lv_ishr hx hb dX5_turn_37 ?_
      refine lv_goto (tgt := 45) hx hb dX5_turn_38 (by decide) ?_
      refine lv_ior hx hb dX5_turn_45 ?_
      refine pu_R_a2 hx hb hK hP hD hS (by unfold vp_in; decide) dX5_turn_46 (fun H locs hP hD hS => ?_)
      refine lv_aload_n hx hb dX5_turn_47 rfl (lv_at hl 1 rfl) ?_
      refine lv_iload_n hx hb dX5_turn_48 rfl (lv_at hl 0 rfl) ?_
      refine lv_bipush (v := 7) hx hb dX5_turn_49 (by decide) ?_
      refine lv_ishr hx hb dX5_turn_51 ?_
      refine pu_R_f16 (v := ((a 2) (7 : Int32).toNatClampNeg) >>> ((7 : Int32) &&& 31)) hx hb hts hi5 hown hK hP hD hS (hts (.fieldLink RX5 66 "InvaderBoardModel" "carry" "I") (List.mem_cons_of_mem _ (List.mem_append_left _ (List.mem_of_getElem? (i := 1) rfl)))) dX5_turn_52 (fun H locs hP hD hS => ?_)
      refine lv_goto (tgt := 161) hx hb dX5_turn_55 (by decide) ?_
      have hF : rTurn f a p1 = (upd f 16 (((a 2) (7 : Int32).toNatClampNeg) >>> ((7 : Int32) &&& 31)), ua a 2 (upd (a 2) (7 : Int32).toNatClampNeg (((((a 2) (7 : Int32).toNatClampNeg) <<< ((1 : Int32) &&& 31)) &&& (254 : Int32)) ||| (((a 2) (7 : Int32).toNatClampNeg) >>> ((7 : Int32) &&& 31))))) := by
        unfold rTurn
        refine (if_pos c_1).trans ?_
        rfl
      rw [hF]
      exact KC.retv hx hb hr hlocks hK hP hD hS dX5_turn_161
  · refine lv_iload_n hx hb dX5_turn_12 rfl (lv_at hl 2 rfl) ?_
    refine lv_iconst (v := 2) hx hb dX5_turn_13 (by decide) ?_
    refine lv_icmp_ne (tgt := 58) hx hb dX5_turn_14 (by decide) (fun c_3 => ?_) (fun c_3 => ?_)
    · refine lv_iload_n hx hb dX5_turn_58 rfl (lv_at hl 2 rfl) ?_
      refine lv_iconst (v := 1) hx hb dX5_turn_59 (by decide) ?_
      refine lv_icmp_eq (tgt := 68) hx hb dX5_turn_60 (by decide) (fun c_4 => ?_) (fun c_4 => ?_)
      · refine lv_aload_n hx hb dX5_turn_68 rfl (lv_at hl 1 rfl) ?_
        refine va_get (ci := 5) (v := .ref (o 23)) (C := RX5) (T := TX5) (N := 24) hx hb hts hi5 hown hK hP 0 rfl rfl 3 (by decide) (hts (.fieldLink RX5 16 "InvaderBoardModel" "reg" "[I") (List.mem_cons_of_mem _ (List.mem_append_left _ (List.mem_of_getElem? (i := 0) rfl)))) (fun _ h9 => h9) rfl dX5_turn_69 ?_
        refine lv_bipush (v := 7) hx hb dX5_turn_72 (by decide) ?_
        refine lv_iload_n hx hb dX5_turn_74 rfl (lv_at hl 0 rfl) ?_
        refine lv_iconst (v := 1) hx hb dX5_turn_75 (by decide) ?_
        refine lv_ishr hx hb dX5_turn_76 ?_
        refine lv_iload_n hx hb dX5_turn_77 rfl (lv_at hl 2 rfl) ?_
        refine lv_iconst (v := 1) hx hb dX5_turn_78 (by decide) ?_
        refine lv_icmp_ne (tgt := 88) hx hb dX5_turn_79 (by decide) (fun c_5 => ?_) (fun c_5 => ?_)
        · exact absurd c_4 c_5
        · refine lv_iload_n hx hb dX5_turn_82 rfl (lv_at hl 0 rfl) ?_
          refine lv_iconst (v := 1) hx hb dX5_turn_83 (by decide) ?_
          refine lv_iand hx hb dX5_turn_84 ?_
          refine lv_goto (tgt := 92) hx hb dX5_turn_85 (by decide) ?_
          refine lv_bipush (v := 7) hx hb dX5_turn_92 (by decide) ?_
          refine lv_ishl hx hb dX5_turn_94 ?_
          refine lv_ior hx hb dX5_turn_95 ?_
          refine pu_R_a2 hx hb hK hP hD hS (by unfold vp_in; decide) dX5_turn_96 (fun H locs hP hD hS => ?_)
          refine lv_aload_n hx hb dX5_turn_97 rfl (lv_at hl 1 rfl) ?_
          refine lv_iload_n hx hb dX5_turn_98 rfl (lv_at hl 0 rfl) ?_
          refine lv_iconst (v := 1) hx hb dX5_turn_99 (by decide) ?_
          refine lv_iand hx hb dX5_turn_100 ?_
          refine pu_R_f16 (v := ((a 2) (7 : Int32).toNatClampNeg) &&& (1 : Int32)) hx hb hts hi5 hown hK hP hD hS (hts (.fieldLink RX5 66 "InvaderBoardModel" "carry" "I") (List.mem_cons_of_mem _ (List.mem_append_left _ (List.mem_of_getElem? (i := 1) rfl)))) dX5_turn_101 (fun H locs hP hD hS => ?_)
          refine lv_goto (tgt := 161) hx hb dX5_turn_104 (by decide) ?_
          have hF : rTurn f a p1 = (upd f 16 (((a 2) (7 : Int32).toNatClampNeg) &&& (1 : Int32)), ua a 2 (upd (a 2) (7 : Int32).toNatClampNeg ((((a 2) (7 : Int32).toNatClampNeg) >>> ((1 : Int32) &&& 31)) ||| ((((a 2) (7 : Int32).toNatClampNeg) &&& (1 : Int32)) <<< ((7 : Int32) &&& 31))))) := by
            unfold rTurn
            refine (if_neg c_1).trans ?_
            refine (if_neg c_3).trans ?_
            refine (if_pos c_4).trans ?_
            rfl
          rw [hF]
          exact KC.retv hx hb hr hlocks hK hP hD hS dX5_turn_161
      · refine lv_iload_n hx hb dX5_turn_63 rfl (lv_at hl 2 rfl) ?_
        refine lv_iconst (v := 3) hx hb dX5_turn_64 (by decide) ?_
        refine lv_icmp_ne (tgt := 107) hx hb dX5_turn_65 (by decide) (fun c_6 => ?_) (fun c_6 => ?_)
        · refine lv_iload_n hx hb dX5_turn_107 rfl (lv_at hl 2 rfl) ?_
          refine lv_iconst (v := 4) hx hb dX5_turn_108 (by decide) ?_
          refine lv_icmp_ne (tgt := 119) hx hb dX5_turn_109 (by decide) (fun c_7 => ?_) (fun c_7 => ?_)
          · refine lv_iload_n hx hb dX5_turn_119 rfl (lv_at hl 2 rfl) ?_
            refine lv_iconst (v := 5) hx hb dX5_turn_120 (by decide) ?_
            refine lv_icmp_ne (tgt := 141) hx hb dX5_turn_121 (by decide) (fun c_8 => ?_) (fun c_8 => ?_)
            · refine lv_aload_n hx hb dX5_turn_141 rfl (lv_at hl 1 rfl) ?_
              refine lv_iload_n hx hb dX5_turn_142 rfl (lv_at hl 2 rfl) ?_
              refine lv_bipush (v := 6) hx hb dX5_turn_143 (by decide) ?_
              refine lv_icmp_ne (tgt := 152) hx hb dX5_turn_145 (by decide) (fun c_9 => ?_) (fun c_9 => ?_)
              · refine lv_iconst (v := 1) hx hb dX5_turn_152 (by decide) ?_
                refine lv_aload_n hx hb dX5_turn_153 rfl (lv_at hl 1 rfl) ?_
                refine va_get (ci := 5) (v := .int (f 16)) (C := RX5) (T := TX5) (N := 24) hx hb hts hi5 hown hK hP 0 rfl rfl 10 (by decide) (hts (.fieldLink RX5 66 "InvaderBoardModel" "carry" "I") (List.mem_cons_of_mem _ (List.mem_append_left _ (List.mem_of_getElem? (i := 1) rfl)))) (fun _ h9 => h9) rfl dX5_turn_154 ?_
                refine lv_isub hx hb dX5_turn_157 ?_
                refine pu_R_f16 (v := (1 : Int32) - (f 16)) hx hb hts hi5 hown hK hP hD hS (hts (.fieldLink RX5 66 "InvaderBoardModel" "carry" "I") (List.mem_cons_of_mem _ (List.mem_append_left _ (List.mem_of_getElem? (i := 1) rfl)))) dX5_turn_158 (fun H locs hP hD hS => ?_)
                have hF : rTurn f a p1 = (upd f 16 ((1 : Int32) - (f 16)), a) := by
                  unfold rTurn
                  refine (if_neg c_1).trans ?_
                  refine (if_neg c_3).trans ?_
                  refine (if_neg c_4).trans ?_
                  refine (if_neg c_6).trans ?_
                  refine (if_neg c_7).trans ?_
                  refine (if_neg c_8).trans ?_
                  refine (if_neg c_9).trans ?_
                  rfl
                rw [hF]
                exact KC.retv hx hb hr hlocks hK hP hD hS dX5_turn_161
              · refine lv_iconst (v := 1) hx hb dX5_turn_148 (by decide) ?_
                refine lv_goto (tgt := 158) hx hb dX5_turn_149 (by decide) ?_
                refine pu_R_f16 (v := (1 : Int32)) hx hb hts hi5 hown hK hP hD hS (hts (.fieldLink RX5 66 "InvaderBoardModel" "carry" "I") (List.mem_cons_of_mem _ (List.mem_append_left _ (List.mem_of_getElem? (i := 1) rfl)))) dX5_turn_158 (fun H locs hP hD hS => ?_)
                have hF : rTurn f a p1 = (upd f 16 (1 : Int32), a) := by
                  unfold rTurn
                  refine (if_neg c_1).trans ?_
                  refine (if_neg c_3).trans ?_
                  refine (if_neg c_4).trans ?_
                  refine (if_neg c_6).trans ?_
                  refine (if_neg c_7).trans ?_
                  refine (if_neg c_8).trans ?_
                  refine (if_pos c_9).trans ?_
                  rfl
                rw [hF]
                exact KC.retv hx hb hr hlocks hK hP hD hS dX5_turn_161
            · refine lv_aload_n hx hb dX5_turn_124 rfl (lv_at hl 1 rfl) ?_
              refine va_get (ci := 5) (v := .ref (o 23)) (C := RX5) (T := TX5) (N := 24) hx hb hts hi5 hown hK hP 0 rfl rfl 3 (by decide) (hts (.fieldLink RX5 16 "InvaderBoardModel" "reg" "[I") (List.mem_cons_of_mem _ (List.mem_append_left _ (List.mem_of_getElem? (i := 0) rfl)))) (fun _ h9 => h9) rfl dX5_turn_125 ?_
              refine lv_bipush (v := 7) hx hb dX5_turn_128 (by decide) ?_
              refine lv_iload_n hx hb dX5_turn_130 rfl (lv_at hl 0 rfl) ?_
              refine lv_iconst (v := -1) hx hb dX5_turn_131 (by decide) ?_
              refine lv_ixor hx hb dX5_turn_132 ?_
              refine lv_sipush (v := 255) hx hb dX5_turn_133 (by decide) ?_
              refine lv_iand hx hb dX5_turn_136 ?_
              refine pu_R_a2 hx hb hK hP hD hS (by unfold vp_in; decide) dX5_turn_137 (fun H locs hP hD hS => ?_)
              refine lv_goto (tgt := 161) hx hb dX5_turn_138 (by decide) ?_
              have hF : rTurn f a p1 = (f, ua a 2 (upd (a 2) (7 : Int32).toNatClampNeg ((((a 2) (7 : Int32).toNatClampNeg) ^^^ (-1 : Int32)) &&& (255 : Int32)))) := by
                unfold rTurn
                refine (if_neg c_1).trans ?_
                refine (if_neg c_3).trans ?_
                refine (if_neg c_4).trans ?_
                refine (if_neg c_6).trans ?_
                refine (if_neg c_7).trans ?_
                refine (if_pos c_8).trans ?_
                rfl
              rw [hF]
              exact KC.retv hx hb hr hlocks hK hP hD hS dX5_turn_161
          · refine lv_aload_n hx hb dX5_turn_112 rfl (lv_at hl 1 rfl) ?_
            obtain ⟨f_10, a_10, hB_10⟩ := k_ex2 (rAdjust f a)
            have kc_10 := kX5_adjust l D cI o f a
            rw [hB_10] at kc_10; dsimp only at kc_10
            refine KC.callv (ci := 5) (rest := []) (wt := wR cI o f_10 a_10) (kc_10) (cwV 0 hts gX5_turn_X5_adjust rfl rfl rfl (by decide +kernel) ⟨Nat.le_of_ble_eq_true rfl, Nat.le_of_ble_eq_true rfl⟩) ⟨hx, hb, hml, hown, hts⟩ hK hP hD hS hA rfl rfl rfl [0, 1, 2, 3, 4, 5, 6] [] [0, 1, 2, 3, 4, 5, 6] (by decide) rfl (wr := []) rfl (by decide) (by decide) (by decide) rfl rfl hl.1 rfl (Nat.le_of_ble_eq_true rfl) dX5_turn_113 ⟨Nat.zero_le _, Nat.zero_le _⟩ (fun H locs hP hD hS => ?_)
            refine lv_goto (tgt := 161) hx hb dX5_turn_116 (by decide) ?_
            have hF : rTurn f a p1 = (f_10, a_10) := by
              unfold rTurn
              refine (if_neg c_1).trans ?_
              refine (if_neg c_3).trans ?_
              refine (if_neg c_4).trans ?_
              refine (if_neg c_6).trans ?_
              refine (if_pos c_7).trans ?_
              rewrite [hB_10]
              rfl
            rw [hF]
            exact KC.retv hx hb hr hlocks hK hP hD hS dX5_turn_161
        · refine lv_aload_n hx hb dX5_turn_68 rfl (lv_at hl 1 rfl) ?_
          refine va_get (ci := 5) (v := .ref (o 23)) (C := RX5) (T := TX5) (N := 24) hx hb hts hi5 hown hK hP 0 rfl rfl 3 (by decide) (hts (.fieldLink RX5 16 "InvaderBoardModel" "reg" "[I") (List.mem_cons_of_mem _ (List.mem_append_left _ (List.mem_of_getElem? (i := 0) rfl)))) (fun _ h9 => h9) rfl dX5_turn_69 ?_
          refine lv_bipush (v := 7) hx hb dX5_turn_72 (by decide) ?_
          refine lv_iload_n hx hb dX5_turn_74 rfl (lv_at hl 0 rfl) ?_
          refine lv_iconst (v := 1) hx hb dX5_turn_75 (by decide) ?_
          refine lv_ishr hx hb dX5_turn_76 ?_
          refine lv_iload_n hx hb dX5_turn_77 rfl (lv_at hl 2 rfl) ?_
          refine lv_iconst (v := 1) hx hb dX5_turn_78 (by decide) ?_
          refine lv_icmp_ne (tgt := 88) hx hb dX5_turn_79 (by decide) (fun c_11 => ?_) (fun c_11 => ?_)
          · refine lv_aload_n hx hb dX5_turn_88 rfl (lv_at hl 1 rfl) ?_
            refine va_get (ci := 5) (v := .int (f 16)) (C := RX5) (T := TX5) (N := 24) hx hb hts hi5 hown hK hP 0 rfl rfl 10 (by decide) (hts (.fieldLink RX5 66 "InvaderBoardModel" "carry" "I") (List.mem_cons_of_mem _ (List.mem_append_left _ (List.mem_of_getElem? (i := 1) rfl)))) (fun _ h9 => h9) rfl dX5_turn_89 ?_
            refine lv_bipush (v := 7) hx hb dX5_turn_92 (by decide) ?_
            refine lv_ishl hx hb dX5_turn_94 ?_
            refine lv_ior hx hb dX5_turn_95 ?_
            refine pu_R_a2 hx hb hK hP hD hS (by unfold vp_in; decide) dX5_turn_96 (fun H locs hP hD hS => ?_)
            refine lv_aload_n hx hb dX5_turn_97 rfl (lv_at hl 1 rfl) ?_
            refine lv_iload_n hx hb dX5_turn_98 rfl (lv_at hl 0 rfl) ?_
            refine lv_iconst (v := 1) hx hb dX5_turn_99 (by decide) ?_
            refine lv_iand hx hb dX5_turn_100 ?_
            refine pu_R_f16 (v := ((a 2) (7 : Int32).toNatClampNeg) &&& (1 : Int32)) hx hb hts hi5 hown hK hP hD hS (hts (.fieldLink RX5 66 "InvaderBoardModel" "carry" "I") (List.mem_cons_of_mem _ (List.mem_append_left _ (List.mem_of_getElem? (i := 1) rfl)))) dX5_turn_101 (fun H locs hP hD hS => ?_)
            refine lv_goto (tgt := 161) hx hb dX5_turn_104 (by decide) ?_
            have hF : rTurn f a p1 = (upd f 16 (((a 2) (7 : Int32).toNatClampNeg) &&& (1 : Int32)), ua a 2 (upd (a 2) (7 : Int32).toNatClampNeg ((((a 2) (7 : Int32).toNatClampNeg) >>> ((1 : Int32) &&& 31)) ||| ((f 16) <<< ((7 : Int32) &&& 31))))) := by
              unfold rTurn
              refine (if_neg c_1).trans ?_
              refine (if_neg c_3).trans ?_
              refine (if_neg c_4).trans ?_
              refine (if_pos c_6).trans ?_
              rfl
            rw [hF]
            exact KC.retv hx hb hr hlocks hK hP hD hS dX5_turn_161
          · exact absurd c_11 c_4
    · refine lv_aload_n hx hb dX5_turn_17 rfl (lv_at hl 1 rfl) ?_
      refine va_get (ci := 5) (v := .ref (o 23)) (C := RX5) (T := TX5) (N := 24) hx hb hts hi5 hown hK hP 0 rfl rfl 3 (by decide) (hts (.fieldLink RX5 16 "InvaderBoardModel" "reg" "[I") (List.mem_cons_of_mem _ (List.mem_append_left _ (List.mem_of_getElem? (i := 0) rfl)))) (fun _ h9 => h9) rfl dX5_turn_18 ?_
      refine lv_bipush (v := 7) hx hb dX5_turn_21 (by decide) ?_
      refine lv_iload_n hx hb dX5_turn_23 rfl (lv_at hl 0 rfl) ?_
      refine lv_iconst (v := 1) hx hb dX5_turn_24 (by decide) ?_
      refine lv_ishl hx hb dX5_turn_25 ?_
      refine lv_sipush (v := 254) hx hb dX5_turn_26 (by decide) ?_
      refine lv_iand hx hb dX5_turn_29 ?_
      refine lv_iload_n hx hb dX5_turn_30 rfl (lv_at hl 2 rfl) ?_
      refine lv_if_ne (tgt := 41) hx hb dX5_turn_31 (by decide) (fun c_12 => ?_) (fun c_12 => ?_)
      · refine lv_aload_n hx hb dX5_turn_41 rfl (lv_at hl 1 rfl) ?_
        refine va_get (ci := 5) (v := .int (f 16)) (C := RX5) (T := TX5) (N := 24) hx hb hts hi5 hown hK hP 0 rfl rfl 10 (by decide) (hts (.fieldLink RX5 66 "InvaderBoardModel" "carry" "I") (List.mem_cons_of_mem _ (List.mem_append_left _ (List.mem_of_getElem? (i := 1) rfl)))) (fun _ h9 => h9) rfl dX5_turn_42 ?_
        refine lv_ior hx hb dX5_turn_45 ?_
        refine pu_R_a2 hx hb hK hP hD hS (by unfold vp_in; decide) dX5_turn_46 (fun H locs hP hD hS => ?_)
        refine lv_aload_n hx hb dX5_turn_47 rfl (lv_at hl 1 rfl) ?_
        refine lv_iload_n hx hb dX5_turn_48 rfl (lv_at hl 0 rfl) ?_
        refine lv_bipush (v := 7) hx hb dX5_turn_49 (by decide) ?_
        refine lv_ishr hx hb dX5_turn_51 ?_
        refine pu_R_f16 (v := ((a 2) (7 : Int32).toNatClampNeg) >>> ((7 : Int32) &&& 31)) hx hb hts hi5 hown hK hP hD hS (hts (.fieldLink RX5 66 "InvaderBoardModel" "carry" "I") (List.mem_cons_of_mem _ (List.mem_append_left _ (List.mem_of_getElem? (i := 1) rfl)))) dX5_turn_52 (fun H locs hP hD hS => ?_)
        refine lv_goto (tgt := 161) hx hb dX5_turn_55 (by decide) ?_
        have hF : rTurn f a p1 = (upd f 16 (((a 2) (7 : Int32).toNatClampNeg) >>> ((7 : Int32) &&& 31)), ua a 2 (upd (a 2) (7 : Int32).toNatClampNeg (((((a 2) (7 : Int32).toNatClampNeg) <<< ((1 : Int32) &&& 31)) &&& (254 : Int32)) ||| (f 16)))) := by
          unfold rTurn
          refine (if_neg c_1).trans ?_
          refine (if_pos c_3).trans ?_
          rfl
        rw [hF]
        exact KC.retv hx hb hr hlocks hK hP hD hS dX5_turn_161
      · exact absurd c_12 c_1
