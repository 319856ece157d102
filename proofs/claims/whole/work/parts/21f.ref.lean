def rLow (f : Nat → Int32) (a : Nat → Nat → Int32) (p1 : Int32) (p2 : Int32) : Int32 × (Nat → Int32) × (Nat → Nat → Int32) :=
  if p1 &&& (1 : Int32) = (1 : Int32) then if p2 = 0 then ((4 : Int32), f, a)
    else if p2 = (1 : Int32) then (match rSetPair (upd f 16 (((rHl f a) + (rPair f a (p1 >>> ((1 : Int32) &&& 31)))) >>> ((16 : Int32) &&& 31))) a (2 : Int32) (((rHl f a) + (rPair f a (p1 >>> ((1 : Int32) &&& 31)))) &&& (65535 : Int32)) with
        | (f_40, a_40) => ((10 : Int32), f_40, a_40))
      else if p2 = (2 : Int32) then (match rMoved f a p1 with
          | (r_38, f_38, a_38) => (r_38, f_38, a_38))
        else if p2 = (3 : Int32) then (match rSetPair f a (p1 >>> ((1 : Int32) &&& 31)) (((rPair f a (p1 >>> ((1 : Int32) &&& 31))) + (-1 : Int32)) &&& (65535 : Int32)) with
            | (f_37, a_37) => ((5 : Int32), f_37, a_37))
          else if (6 : Int32) ≤ p2 then if p2 = (6 : Int32) then (match rNext f a with
                | (r_29, f_29) => if p1 = (6 : Int32) then ((10 : Int32), f_29, rSet f_29 a p1 r_29)
                  else ((7 : Int32), f_29, rSet f_29 a p1 r_29))
              else (match rTurn f a p1 with
                | (f_28, a_28) => ((4 : Int32), f_28, a_28))
            else if p2 = (4 : Int32) then (match rCount f a p1 (1 : Int32) with
                | (f_34, a_34) => if p1 = (6 : Int32) then ((10 : Int32), f_34, a_34)
                  else ((5 : Int32), f_34, a_34))
              else (match rCount f a p1 (-1 : Int32) with
                | (f_32, a_32) => if p1 = (6 : Int32) then ((10 : Int32), f_32, a_32)
                  else ((5 : Int32), f_32, a_32))
  else if p2 = 0 then ((4 : Int32), f, a)
    else if p2 = (1 : Int32) then (match rNextTwo f a with
        | (r_20, f_20) => (match rSetPair f_20 a (p1 >>> ((1 : Int32) &&& 31)) r_20 with
          | (f_21, a_21) => ((10 : Int32), f_21, a_21)))
      else if p2 = (2 : Int32) then (match rMoved f a p1 with
          | (r_18, f_18, a_18) => (r_18, f_18, a_18))
        else if p2 = (3 : Int32) then (match rSetPair f a (p1 >>> ((1 : Int32) &&& 31)) (((rPair f a (p1 >>> ((1 : Int32) &&& 31))) + (1 : Int32)) &&& (65535 : Int32)) with
            | (f_17, a_17) => ((5 : Int32), f_17, a_17))
          else if (6 : Int32) ≤ p2 then if p2 = (6 : Int32) then (match rNext f a with
                | (r_9, f_9) => if p1 = (6 : Int32) then ((10 : Int32), f_9, rSet f_9 a p1 r_9)
                  else ((7 : Int32), f_9, rSet f_9 a p1 r_9))
              else (match rTurn f a p1 with
                | (f_8, a_8) => ((4 : Int32), f_8, a_8))
            else if p2 = (4 : Int32) then (match rCount f a p1 (1 : Int32) with
                | (f_14, a_14) => if p1 = (6 : Int32) then ((10 : Int32), f_14, a_14)
                  else ((5 : Int32), f_14, a_14))
              else (match rCount f a p1 (-1 : Int32) with
                | (f_12, a_12) => if p1 = (6 : Int32) then ((10 : Int32), f_12, a_12)
                  else ((5 : Int32), f_12, a_12))
set_option maxHeartbeats 4000000 in
set_option maxRecDepth 100000 in
theorem kX5_low (l : Launch) (D : va_G) (cI : ClassId) (o : Nat → Nat) (f : Nat → Int32) (a : Nat → Nat → Int32) (p1 : Int32) (p2 : Int32) (h1 : vp_in p1 8) : KC l yX5_low wsX5_low 4 [.ref (o 20), .int p1, .int p2] D cI (wR cI o f a) (wR cI o ((rLow f a p1 p2).2.1) ((rLow f a p1 p2).2.2)) (some (.int (rLow f a p1 p2).1)) := by
  refine KC.of (cc := cX5_low) (maxL := 6) (by decide) rfl (Nat.le_of_ble_eq_true rfl) ?_
  intro p e s m below meth c A hx hb hr hts hown hlocks hml hK hP hD hS hA ls hl
  have hl : lv_has ls 6 [(0, .ref (o 20)), (1, .int p1), (2, .int p2)] := hl
  have hown : s.vm.findClass RX5 = some m.cls := hown
  have hi5 : ∀ w ∈ u_ws RX5 TX5 24, w ∈ wsX5_low := fun w h => List.mem_cons_of_mem _ (List.mem_append_right _ h)
  refine lv_iload_n hx hb dX5_low_0 rfl (lv_at hl 1 rfl) ?_
  refine lv_iconst (v := 1) hx hb dX5_low_1 (by decide) ?_
  refine lv_ishr hx hb dX5_low_2 ?_
  refine lv_istore_n (lv' := [(3, .int _), (0, .ref _), (1, .int _), (2, .int _)]) hx hb dX5_low_3 rfl hl (by decide) rfl (fun ls hl => ?_)
  refine lv_iload_n hx hb dX5_low_4 rfl (lv_at hl 2 rfl) ?_
  refine lv_iconst (v := 1) hx hb dX5_low_5 (by decide) ?_
  refine lv_iand hx hb dX5_low_6 ?_
  refine lv_iconst (v := 1) hx hb dX5_low_7 (by decide) ?_
  refine lv_icmp_ne (tgt := 15) hx hb dX5_low_8 (by decide) (fun c_1 => ?_) (fun c_1 => ?_)
  · refine lv_iconst (v := 0) hx hb dX5_low_15 (by decide) ?_
    refine lv_istore (lv' := [(4, .int _), (3, .int _), (0, .ref _), (1, .int _), (2, .int _)]) hx hb dX5_low_16 hl (by decide) rfl (fun ls hl => ?_)
    refine lv_iload_n hx hb dX5_low_18 rfl (lv_at hl 4 rfl) ?_
    refine lv_if_ne (tgt := 24) hx hb dX5_low_19 (by decide) (fun c_2 => ?_) (fun c_2 => ?_)
    · refine lv_iload_n hx hb dX5_low_24 rfl (lv_at hl 4 rfl) ?_
      refine lv_iconst (v := 1) hx hb dX5_low_25 (by decide) ?_
      refine lv_icmp_ne (tgt := 80) hx hb dX5_low_26 (by decide) (fun c_3 => ?_) (fun c_3 => ?_)
      · refine lv_iload_n hx hb dX5_low_80 rfl (lv_at hl 4 rfl) ?_
        refine lv_iconst (v := 2) hx hb dX5_low_81 (by decide) ?_
        refine lv_icmp_ne (tgt := 91) hx hb dX5_low_82 (by decide) (fun c_4 => ?_) (fun c_4 => ?_)
        · refine lv_iload_n hx hb dX5_low_91 rfl (lv_at hl 4 rfl) ?_
          refine lv_iconst (v := 3) hx hb dX5_low_92 (by decide) ?_
          refine lv_icmp_ne (tgt := 122) hx hb dX5_low_93 (by decide) (fun c_5 => ?_) (fun c_5 => ?_)
          · refine lv_iload_n hx hb dX5_low_122 rfl (lv_at hl 4 rfl) ?_
            refine lv_bipush (v := 6) hx hb dX5_low_123 (by decide) ?_
            refine lv_icmp_ge (tgt := 156) hx hb dX5_low_125 (by decide) (fun c_6 => ?_) (fun c_6 => ?_)
            · refine lv_iload_n hx hb dX5_low_156 rfl (lv_at hl 4 rfl) ?_
              refine lv_bipush (v := 6) hx hb dX5_low_157 (by decide) ?_
              refine lv_icmp_ne (tgt := 185) hx hb dX5_low_159 (by decide) (fun c_7 => ?_) (fun c_7 => ?_)
              · refine lv_aload_n hx hb dX5_low_185 rfl (lv_at hl 2 rfl) ?_
                refine lv_iload_n hx hb dX5_low_186 rfl (lv_at hl 3 rfl) ?_
                obtain ⟨f_8, a_8, hB_8⟩ := k_ex2 (rTurn f a p1)
                have kc_8 := kX5_turn l D cI o f a p1
                rw [hB_8] at kc_8; dsimp only at kc_8
                refine KC.callv (ci := 5) (rest := []) (wt := wR cI o f_8 a_8) (kc_8) (cwV 1 hts gX5_low_X5_turn rfl rfl rfl (by decide +kernel) ⟨Nat.le_of_ble_eq_true rfl, Nat.le_of_ble_eq_true rfl⟩) ⟨hx, hb, hml, hown, hts⟩ hK hP hD hS hA rfl rfl rfl [0, 1, 2, 3, 4, 5, 6] [] [0, 1, 2, 3, 4, 5, 6] (by decide) rfl (wr := []) rfl (by decide) (by decide) (by decide) rfl rfl hl.1 rfl (Nat.le_of_ble_eq_true rfl) dX5_low_187 ⟨Nat.zero_le _, Nat.zero_le _⟩ (fun H locs hP hD hS => ?_)
                refine lv_iconst (v := 4) hx hb dX5_low_190 (by decide) ?_
                have hF : rLow f a p1 p2 = ((4 : Int32), f_8, a_8) := by
                  unfold rLow
                  refine (if_neg c_1).trans ?_
                  refine (if_neg c_2).trans ?_
                  refine (if_neg c_3).trans ?_
                  refine (if_neg c_4).trans ?_
                  refine (if_neg c_5).trans ?_
                  refine (if_pos c_6).trans ?_
                  refine (if_neg c_7).trans ?_
                  rewrite [hB_8]
                  rfl
                rw [hF]
                exact KC.reti hx hb hr hlocks hK hP hD hS dX5_low_191 rfl
              · refine lv_aload_n hx hb dX5_low_162 rfl (lv_at hl 2 rfl) ?_
                refine lv_iload_n hx hb dX5_low_163 rfl (lv_at hl 3 rfl) ?_
                refine lv_aload_n hx hb dX5_low_164 rfl (lv_at hl 2 rfl) ?_
                obtain ⟨r_9, f_9, hB_9⟩ := k_ex2 (rNext f a)
                have kc_9 := kX5_next l D cI o f a
                rw [hB_9] at kc_9; dsimp only at kc_9
                refine KC.calli (ci := 5) (rest := [.int p1, .ref (o 20)]) (wt := wR cI o f_9 a) (kc_9) (cwV 0 hts gX5_low_X5_next rfl rfl rfl (by decide +kernel) ⟨Nat.le_of_ble_eq_true rfl, Nat.le_of_ble_eq_true rfl⟩) ⟨hx, hb, hml, hown, hts⟩ hK hP hD hS hA rfl rfl rfl [0, 1, 2, 3, 4, 5, 6] [] [0, 1, 2, 3, 4, 5, 6] (by decide) rfl (wr := []) rfl (by decide) (by decide) (by decide) rfl rfl hl.1 rfl (Nat.le_of_ble_eq_true rfl) dX5_low_165 ⟨Nat.zero_le _, Nat.zero_le _⟩ (fun H locs hP hD hS => ?_)
                refine KC.callv (ci := 5) (rest := []) (wt := wR cI o f_9 (rSet f_9 a p1 r_9)) (kX5_set l D cI o f_9 a p1 r_9 h1) (cwV 2 hts gX5_low_X5_set rfl rfl rfl (by decide +kernel) ⟨Nat.le_of_ble_eq_true rfl, Nat.le_of_ble_eq_true rfl⟩) ⟨hx, hb, hml, hown, hts⟩ hK hP hD hS hA rfl rfl rfl [0, 1, 2, 3, 4, 5, 6] [] [0, 1, 2, 3, 4, 5, 6] (by decide) rfl (wr := []) rfl (by decide) (by decide) (by decide) rfl rfl hl.1 rfl (Nat.le_of_ble_eq_true rfl) dX5_low_168 ⟨Nat.zero_le _, Nat.zero_le _⟩ (fun H locs hP hD hS => ?_)
                refine lv_iload_n hx hb dX5_low_171 rfl (lv_at hl 3 rfl) ?_
                refine lv_bipush (v := 6) hx hb dX5_low_172 (by decide) ?_
                refine lv_icmp_ne (tgt := 182) hx hb dX5_low_174 (by decide) (fun c_10 => ?_) (fun c_10 => ?_)
                · refine lv_bipush (v := 7) hx hb dX5_low_182 (by decide) ?_
                  have hF : rLow f a p1 p2 = ((7 : Int32), f_9, rSet f_9 a p1 r_9) := by
                    unfold rLow
                    refine (if_neg c_1).trans ?_
                    refine (if_neg c_2).trans ?_
                    refine (if_neg c_3).trans ?_
                    refine (if_neg c_4).trans ?_
                    refine (if_neg c_5).trans ?_
                    refine (if_pos c_6).trans ?_
                    refine (if_pos c_7).trans ?_
                    rewrite [hB_9]
                    dsimp only
                    refine (if_neg c_10).trans ?_
                    rfl
                  rw [hF]
                  exact KC.reti hx hb hr hlocks hK hP hD hS dX5_low_184 rfl
                · refine lv_bipush (v := 10) hx hb dX5_low_177 (by decide) ?_
                  refine lv_goto (tgt := 184) hx hb dX5_low_179 (by decide) ?_
                  have hF : rLow f a p1 p2 = ((10 : Int32), f_9, rSet f_9 a p1 r_9) := by
                    unfold rLow
                    refine (if_neg c_1).trans ?_
                    refine (if_neg c_2).trans ?_
                    refine (if_neg c_3).trans ?_
                    refine (if_neg c_4).trans ?_
                    refine (if_neg c_5).trans ?_
                    refine (if_pos c_6).trans ?_
                    refine (if_pos c_7).trans ?_
                    rewrite [hB_9]
                    dsimp only
                    refine (if_pos c_10).trans ?_
                    rfl
                  rw [hF]
                  exact KC.reti hx hb hr hlocks hK hP hD hS dX5_low_184 rfl
            · refine lv_aload_n hx hb dX5_low_128 rfl (lv_at hl 2 rfl) ?_
              refine lv_iload_n hx hb dX5_low_129 rfl (lv_at hl 3 rfl) ?_
              refine lv_iload_n hx hb dX5_low_130 rfl (lv_at hl 4 rfl) ?_
              refine lv_iconst (v := 4) hx hb dX5_low_131 (by decide) ?_
              refine lv_icmp_ne (tgt := 139) hx hb dX5_low_132 (by decide) (fun c_11 => ?_) (fun c_11 => ?_)
              · refine lv_iconst (v := -1) hx hb dX5_low_139 (by decide) ?_
                obtain ⟨f_12, a_12, hB_12⟩ := k_ex2 (rCount f a p1 (-1 : Int32))
                have kc_12 := kX5_count l D cI o f a p1 (-1 : Int32) h1
                rw [hB_12] at kc_12; dsimp only at kc_12
                refine KC.callv (ci := 5) (rest := []) (wt := wR cI o f_12 a_12) (kc_12) (cwV 2 hts gX5_low_X5_count rfl rfl rfl (by decide +kernel) ⟨Nat.le_of_ble_eq_true rfl, Nat.le_of_ble_eq_true rfl⟩) ⟨hx, hb, hml, hown, hts⟩ hK hP hD hS hA rfl rfl rfl [0, 1, 2, 3, 4, 5, 6] [] [0, 1, 2, 3, 4, 5, 6] (by decide) rfl (wr := []) rfl (by decide) (by decide) (by decide) rfl rfl hl.1 rfl (Nat.le_of_ble_eq_true rfl) dX5_low_140 ⟨Nat.zero_le _, Nat.zero_le _⟩ (fun H locs hP hD hS => ?_)
                refine lv_iload_n hx hb dX5_low_143 rfl (lv_at hl 3 rfl) ?_
                refine lv_bipush (v := 6) hx hb dX5_low_144 (by decide) ?_
                refine lv_icmp_ne (tgt := 154) hx hb dX5_low_146 (by decide) (fun c_13 => ?_) (fun c_13 => ?_)
                · refine lv_iconst (v := 5) hx hb dX5_low_154 (by decide) ?_
                  have hF : rLow f a p1 p2 = ((5 : Int32), f_12, a_12) := by
                    unfold rLow
                    refine (if_neg c_1).trans ?_
                    refine (if_neg c_2).trans ?_
                    refine (if_neg c_3).trans ?_
                    refine (if_neg c_4).trans ?_
                    refine (if_neg c_5).trans ?_
                    refine (if_neg c_6).trans ?_
                    refine (if_neg c_11).trans ?_
                    rewrite [hB_12]
                    dsimp only
                    refine (if_neg c_13).trans ?_
                    rfl
                  rw [hF]
                  exact KC.reti hx hb hr hlocks hK hP hD hS dX5_low_155 rfl
                · refine lv_bipush (v := 10) hx hb dX5_low_149 (by decide) ?_
                  refine lv_goto (tgt := 155) hx hb dX5_low_151 (by decide) ?_
                  have hF : rLow f a p1 p2 = ((10 : Int32), f_12, a_12) := by
                    unfold rLow
                    refine (if_neg c_1).trans ?_
                    refine (if_neg c_2).trans ?_
                    refine (if_neg c_3).trans ?_
                    refine (if_neg c_4).trans ?_
                    refine (if_neg c_5).trans ?_
                    refine (if_neg c_6).trans ?_
                    refine (if_neg c_11).trans ?_
                    rewrite [hB_12]
                    dsimp only
                    refine (if_pos c_13).trans ?_
                    rfl
                  rw [hF]
                  exact KC.reti hx hb hr hlocks hK hP hD hS dX5_low_155 rfl
              · refine lv_iconst (v := 1) hx hb dX5_low_135 (by decide) ?_
                refine lv_goto (tgt := 140) hx hb dX5_low_136 (by decide) ?_
                obtain ⟨f_14, a_14, hB_14⟩ := k_ex2 (rCount f a p1 (1 : Int32))
                have kc_14 := kX5_count l D cI o f a p1 (1 : Int32) h1
                rw [hB_14] at kc_14; dsimp only at kc_14
                refine KC.callv (ci := 5) (rest := []) (wt := wR cI o f_14 a_14) (kc_14) (cwV 2 hts gX5_low_X5_count rfl rfl rfl (by decide +kernel) ⟨Nat.le_of_ble_eq_true rfl, Nat.le_of_ble_eq_true rfl⟩) ⟨hx, hb, hml, hown, hts⟩ hK hP hD hS hA rfl rfl rfl [0, 1, 2, 3, 4, 5, 6] [] [0, 1, 2, 3, 4, 5, 6] (by decide) rfl (wr := []) rfl (by decide) (by decide) (by decide) rfl rfl hl.1 rfl (Nat.le_of_ble_eq_true rfl) dX5_low_140 ⟨Nat.zero_le _, Nat.zero_le _⟩ (fun H locs hP hD hS => ?_)
                refine lv_iload_n hx hb dX5_low_143 rfl (lv_at hl 3 rfl) ?_
                refine lv_bipush (v := 6) hx hb dX5_low_144 (by decide) ?_
                refine lv_icmp_ne (tgt := 154) hx hb dX5_low_146 (by decide) (fun c_15 => ?_) (fun c_15 => ?_)
                · refine lv_iconst (v := 5) hx hb dX5_low_154 (by decide) ?_
                  have hF : rLow f a p1 p2 = ((5 : Int32), f_14, a_14) := by
                    unfold rLow
                    refine (if_neg c_1).trans ?_
                    refine (if_neg c_2).trans ?_
                    refine (if_neg c_3).trans ?_
                    refine (if_neg c_4).trans ?_
                    refine (if_neg c_5).trans ?_
                    refine (if_neg c_6).trans ?_
                    refine (if_pos c_11).trans ?_
                    rewrite [hB_14]
                    dsimp only
                    refine (if_neg c_15).trans ?_
                    rfl
                  rw [hF]
                  exact KC.reti hx hb hr hlocks hK hP hD hS dX5_low_155 rfl
                · refine lv_bipush (v := 10) hx hb dX5_low_149 (by decide) ?_
                  refine lv_goto (tgt := 155) hx hb dX5_low_151 (by decide) ?_
                  have hF : rLow f a p1 p2 = ((10 : Int32), f_14, a_14) := by
                    unfold rLow
                    refine (if_neg c_1).trans ?_
                    refine (if_neg c_2).trans ?_
                    refine (if_neg c_3).trans ?_
                    refine (if_neg c_4).trans ?_
                    refine (if_neg c_5).trans ?_
                    refine (if_neg c_6).trans ?_
                    refine (if_pos c_11).trans ?_
                    rewrite [hB_14]
                    dsimp only
                    refine (if_pos c_15).trans ?_
                    rfl
                  rw [hF]
                  exact KC.reti hx hb hr hlocks hK hP hD hS dX5_low_155 rfl
          · refine lv_aload_n hx hb dX5_low_96 rfl (lv_at hl 2 rfl) ?_
            refine lv_iload_n hx hb dX5_low_97 rfl (lv_at hl 1 rfl) ?_
            refine lv_aload_n hx hb dX5_low_98 rfl (lv_at hl 2 rfl) ?_
            refine lv_iload_n hx hb dX5_low_99 rfl (lv_at hl 1 rfl) ?_
            refine KC.calli (ci := 5) (rest := [.int (p1 >>> ((1 : Int32) &&& 31)), .ref (o 20)]) (wt := wR cI o f a) (kX5_pair l D cI o f a (p1 >>> ((1 : Int32) &&& 31)) (xin_sh1 h1)) (cwV 1 hts gX5_low_X5_pair rfl rfl rfl (by decide +kernel) ⟨Nat.le_of_ble_eq_true rfl, Nat.le_of_ble_eq_true rfl⟩) ⟨hx, hb, hml, hown, hts⟩ hK hP hD hS hA rfl rfl rfl [0, 1, 2, 3, 4, 5, 6] [] [0, 1, 2, 3, 4, 5, 6] (by decide) rfl (wr := []) rfl (by decide) (by decide) (by decide) rfl rfl hl.1 rfl (Nat.le_of_ble_eq_true rfl) dX5_low_100 ⟨Nat.zero_le _, Nat.zero_le _⟩ (fun H locs hP hD hS => ?_)
            refine lv_iload hx hb dX5_low_103 (lv_at hl 0 rfl) ?_
            refine lv_if_eq (tgt := 112) hx hb dX5_low_105 (by decide) (fun c_16 => ?_) (fun c_16 => ?_)
            · refine lv_iconst (v := 1) hx hb dX5_low_112 (by decide) ?_
              refine lv_iadd hx hb dX5_low_113 ?_
              refine lv_ldc (v := 65535) hx hb hown (hts (.constant RX5 32 65535) (List.mem_cons_of_mem _ (List.mem_append_left _ (List.mem_append_left _ (List.mem_of_getElem? (i := 1) rfl))))) dX5_low_114 ?_
              refine lv_iand hx hb dX5_low_116 ?_
              obtain ⟨f_17, a_17, hB_17⟩ := k_ex2 (rSetPair f a (p1 >>> ((1 : Int32) &&& 31)) (((rPair f a (p1 >>> ((1 : Int32) &&& 31))) + (1 : Int32)) &&& (65535 : Int32)))
              have kc_17 := kX5_setPair l D cI o f a (p1 >>> ((1 : Int32) &&& 31)) (((rPair f a (p1 >>> ((1 : Int32) &&& 31))) + (1 : Int32)) &&& (65535 : Int32)) (xin_sh1 h1)
              rw [hB_17] at kc_17; dsimp only at kc_17
              refine KC.callv (ci := 5) (rest := []) (wt := wR cI o f_17 a_17) (kc_17) (cwV 2 hts gX5_low_X5_setPair rfl rfl rfl (by decide +kernel) ⟨Nat.le_of_ble_eq_true rfl, Nat.le_of_ble_eq_true rfl⟩) ⟨hx, hb, hml, hown, hts⟩ hK hP hD hS hA rfl rfl rfl [0, 1, 2, 3, 4, 5, 6] [] [0, 1, 2, 3, 4, 5, 6] (by decide) rfl (wr := []) rfl (by decide) (by decide) (by decide) rfl rfl hl.1 rfl (Nat.le_of_ble_eq_true rfl) dX5_low_117 ⟨Nat.zero_le _, Nat.zero_le _⟩ (fun H locs hP hD hS => ?_)
              refine lv_iconst (v := 5) hx hb dX5_low_120 (by decide) ?_
              have hF : rLow f a p1 p2 = ((5 : Int32), f_17, a_17) := by
                unfold rLow
                refine (if_neg c_1).trans ?_
                refine (if_neg c_2).trans ?_
                refine (if_neg c_3).trans ?_
                refine (if_neg c_4).trans ?_
                refine (if_pos c_5).trans ?_
                rewrite [hB_17]
                rfl
              rw [hF]
              exact KC.reti hx hb hr hlocks hK hP hD hS dX5_low_121 rfl
            · exact absurd c_16 (by decide)
        · refine lv_aload_n hx hb dX5_low_85 rfl (lv_at hl 2 rfl) ?_
          refine lv_iload_n hx hb dX5_low_86 rfl (lv_at hl 3 rfl) ?_
          obtain ⟨r_18, f_18, a_18, hB_18⟩ := k_ex3 (rMoved f a p1)
          have kc_18 := kX5_moved l D cI o f a p1 h1
          rw [hB_18] at kc_18; dsimp only at kc_18
          refine KC.calli (ci := 5) (rest := []) (wt := wR cI o f_18 a_18) (kc_18) (cwV 1 hts gX5_low_X5_moved rfl rfl rfl (by decide +kernel) ⟨Nat.le_of_ble_eq_true rfl, Nat.le_of_ble_eq_true rfl⟩) ⟨hx, hb, hml, hown, hts⟩ hK hP hD hS hA rfl rfl rfl [0, 1, 2, 3, 4, 5, 6] [] [0, 1, 2, 3, 4, 5, 6] (by decide) rfl (wr := []) rfl (by decide) (by decide) (by decide) rfl rfl hl.1 rfl (Nat.le_of_ble_eq_true rfl) dX5_low_87 ⟨Nat.zero_le _, Nat.zero_le _⟩ (fun H locs hP hD hS => ?_)
          have hF : rLow f a p1 p2 = (r_18, f_18, a_18) := by
            unfold rLow
            refine (if_neg c_1).trans ?_
            refine (if_neg c_2).trans ?_
            refine (if_neg c_3).trans ?_
            refine (if_pos c_4).trans ?_
            rewrite [hB_18]
            rfl
          rw [hF]
          exact KC.reti hx hb hr hlocks hK hP hD hS dX5_low_90 rfl
      · refine lv_iload hx hb dX5_low_29 (lv_at hl 0 rfl) ?_
        refine lv_if_eq (tgt := 68) hx hb dX5_low_31 (by decide) (fun c_19 => ?_) (fun c_19 => ?_)
        · refine lv_aload_n hx hb dX5_low_68 rfl (lv_at hl 2 rfl) ?_
          refine lv_iload_n hx hb dX5_low_69 rfl (lv_at hl 1 rfl) ?_
          refine lv_aload_n hx hb dX5_low_70 rfl (lv_at hl 2 rfl) ?_
          obtain ⟨r_20, f_20, hB_20⟩ := k_ex2 (rNextTwo f a)
          have kc_20 := kX5_nextTwo l D cI o f a
          rw [hB_20] at kc_20; dsimp only at kc_20
          refine KC.calli (ci := 5) (rest := [.int (p1 >>> ((1 : Int32) &&& 31)), .ref (o 20)]) (wt := wR cI o f_20 a) (kc_20) (cwV 0 hts gX5_low_X5_nextTwo rfl rfl rfl (by decide +kernel) ⟨Nat.le_of_ble_eq_true rfl, Nat.le_of_ble_eq_true rfl⟩) ⟨hx, hb, hml, hown, hts⟩ hK hP hD hS hA rfl rfl rfl [0, 1, 2, 3, 4, 5, 6] [] [0, 1, 2, 3, 4, 5, 6] (by decide) rfl (wr := []) rfl (by decide) (by decide) (by decide) rfl rfl hl.1 rfl (Nat.le_of_ble_eq_true rfl) dX5_low_71 ⟨Nat.zero_le _, Nat.zero_le _⟩ (fun H locs hP hD hS => ?_)
          obtain ⟨f_21, a_21, hB_21⟩ := k_ex2 (rSetPair f_20 a (p1 >>> ((1 : Int32) &&& 31)) r_20)
          have kc_21 := kX5_setPair l D cI o f_20 a (p1 >>> ((1 : Int32) &&& 31)) r_20 (xin_sh1 h1)
          rw [hB_21] at kc_21; dsimp only at kc_21
          refine KC.callv (ci := 5) (rest := []) (wt := wR cI o f_21 a_21) (kc_21) (cwV 2 hts gX5_low_X5_setPair rfl rfl rfl (by decide +kernel) ⟨Nat.le_of_ble_eq_true rfl, Nat.le_of_ble_eq_true rfl⟩) ⟨hx, hb, hml, hown, hts⟩ hK hP hD hS hA rfl rfl rfl [0, 1, 2, 3, 4, 5, 6] [] [0, 1, 2, 3, 4, 5, 6] (by decide) rfl (wr := []) rfl (by decide) (by decide) (by decide) rfl rfl hl.1 rfl (Nat.le_of_ble_eq_true rfl) dX5_low_74 ⟨Nat.zero_le _, Nat.zero_le _⟩ (fun H locs hP hD hS => ?_)
          refine lv_bipush (v := 10) hx hb dX5_low_77 (by decide) ?_
          have hF : rLow f a p1 p2 = ((10 : Int32), f_21, a_21) := by
            unfold rLow
            refine (if_neg c_1).trans ?_
            refine (if_neg c_2).trans ?_
            refine (if_pos c_3).trans ?_
            rewrite [hB_20]
            dsimp only
            rewrite [hB_21]
            rfl
          rw [hF]
          exact KC.reti hx hb hr hlocks hK hP hD hS dX5_low_79 rfl
        · exact absurd c_19 (by decide)
    · refine lv_iconst (v := 4) hx hb dX5_low_22 (by decide) ?_
      have hF : rLow f a p1 p2 = ((4 : Int32), f, a) := by
        unfold rLow
        refine (if_neg c_1).trans ?_
        refine (if_pos c_2).trans ?_
        rfl
      rw [hF]
      exact KC.reti hx hb hr hlocks hK hP hD hS dX5_low_23 rfl
  · refine lv_iconst (v := 1) hx hb dX5_low_11 (by decide) ?_
    refine lv_goto (tgt := 16) hx hb dX5_low_12 (by decide) ?_
    refine lv_istore (lv' := [(4, .int _), (3, .int _), (0, .ref _), (1, .int _), (2, .int _)]) hx hb dX5_low_16 hl (by decide) rfl (fun ls hl => ?_)
    refine lv_iload_n hx hb dX5_low_18 rfl (lv_at hl 4 rfl) ?_
    refine lv_if_ne (tgt := 24) hx hb dX5_low_19 (by decide) (fun c_22 => ?_) (fun c_22 => ?_)
    · refine lv_iload_n hx hb dX5_low_24 rfl (lv_at hl 4 rfl) ?_
      refine lv_iconst (v := 1) hx hb dX5_low_25 (by decide) ?_
      refine lv_icmp_ne (tgt := 80) hx hb dX5_low_26 (by decide) (fun c_23 => ?_) (fun c_23 => ?_)
      · refine lv_iload_n hx hb dX5_low_80 rfl (lv_at hl 4 rfl) ?_
        refine lv_iconst (v := 2) hx hb dX5_low_81 (by decide) ?_
        refine lv_icmp_ne (tgt := 91) hx hb dX5_low_82 (by decide) (fun c_24 => ?_) (fun c_24 => ?_)
        · refine lv_iload_n hx hb dX5_low_91 rfl (lv_at hl 4 rfl) ?_
          refine lv_iconst (v := 3) hx hb dX5_low_92 (by decide) ?_
          refine lv_icmp_ne (tgt := 122) hx hb dX5_low_93 (by decide) (fun c_25 => ?_) (fun c_25 => ?_)
          · refine lv_iload_n hx hb dX5_low_122 rfl (lv_at hl 4 rfl) ?_
            refine lv_bipush (v := 6) hx hb dX5_low_123 (by decide) ?_
            refine lv_icmp_ge (tgt := 156) hx hb dX5_low_125 (by decide) (fun c_26 => ?_) (fun c_26 => ?_)
            · refine lv_iload_n hx hb dX5_low_156 rfl (lv_at hl 4 rfl) ?_
              refine lv_bipush (v := 6) hx hb dX5_low_157 (by decide) ?_
              refine lv_icmp_ne (tgt := 185) hx hb dX5_low_159 (by decide) (fun c_27 => ?_) (fun c_27 => ?_)
              · refine lv_aload_n hx hb dX5_low_185 rfl (lv_at hl 2 rfl) ?_
                refine lv_iload_n hx hb dX5_low_186 rfl (lv_at hl 3 rfl) ?_
                obtain ⟨f_28, a_28, hB_28⟩ := k_ex2 (rTurn f a p1)
                have kc_28 := kX5_turn l D cI o f a p1
                rw [hB_28] at kc_28; dsimp only at kc_28
                refine KC.callv (ci := 5) (rest := []) (wt := wR cI o f_28 a_28) (kc_28) (cwV 1 hts gX5_low_X5_turn rfl rfl rfl (by decide +kernel) ⟨Nat.le_of_ble_eq_true rfl, Nat.le_of_ble_eq_true rfl⟩) ⟨hx, hb, hml, hown, hts⟩ hK hP hD hS hA rfl rfl rfl [0, 1, 2, 3, 4, 5, 6] [] [0, 1, 2, 3, 4, 5, 6] (by decide) rfl (wr := []) rfl (by decide) (by decide) (by decide) rfl rfl hl.1 rfl (Nat.le_of_ble_eq_true rfl) dX5_low_187 ⟨Nat.zero_le _, Nat.zero_le _⟩ (fun H locs hP hD hS => ?_)
                refine lv_iconst (v := 4) hx hb dX5_low_190 (by decide) ?_
                have hF : rLow f a p1 p2 = ((4 : Int32), f_28, a_28) := by
                  unfold rLow
                  refine (if_pos c_1).trans ?_
                  refine (if_neg c_22).trans ?_
                  refine (if_neg c_23).trans ?_
                  refine (if_neg c_24).trans ?_
                  refine (if_neg c_25).trans ?_
                  refine (if_pos c_26).trans ?_
                  refine (if_neg c_27).trans ?_
                  rewrite [hB_28]
                  rfl
                rw [hF]
                exact KC.reti hx hb hr hlocks hK hP hD hS dX5_low_191 rfl
              · refine lv_aload_n hx hb dX5_low_162 rfl (lv_at hl 2 rfl) ?_
                refine lv_iload_n hx hb dX5_low_163 rfl (lv_at hl 3 rfl) ?_
                refine lv_aload_n hx hb dX5_low_164 rfl (lv_at hl 2 rfl) ?_
                obtain ⟨r_29, f_29, hB_29⟩ := k_ex2 (rNext f a)
                have kc_29 := kX5_next l D cI o f a
                rw [hB_29] at kc_29; dsimp only at kc_29
                refine KC.calli (ci := 5) (rest := [.int p1, .ref (o 20)]) (wt := wR cI o f_29 a) (kc_29) (cwV 0 hts gX5_low_X5_next rfl rfl rfl (by decide +kernel) ⟨Nat.le_of_ble_eq_true rfl, Nat.le_of_ble_eq_true rfl⟩) ⟨hx, hb, hml, hown, hts⟩ hK hP hD hS hA rfl rfl rfl [0, 1, 2, 3, 4, 5, 6] [] [0, 1, 2, 3, 4, 5, 6] (by decide) rfl (wr := []) rfl (by decide) (by decide) (by decide) rfl rfl hl.1 rfl (Nat.le_of_ble_eq_true rfl) dX5_low_165 ⟨Nat.zero_le _, Nat.zero_le _⟩ (fun H locs hP hD hS => ?_)
                refine KC.callv (ci := 5) (rest := []) (wt := wR cI o f_29 (rSet f_29 a p1 r_29)) (kX5_set l D cI o f_29 a p1 r_29 h1) (cwV 2 hts gX5_low_X5_set rfl rfl rfl (by decide +kernel) ⟨Nat.le_of_ble_eq_true rfl, Nat.le_of_ble_eq_true rfl⟩) ⟨hx, hb, hml, hown, hts⟩ hK hP hD hS hA rfl rfl rfl [0, 1, 2, 3, 4, 5, 6] [] [0, 1, 2, 3, 4, 5, 6] (by decide) rfl (wr := []) rfl (by decide) (by decide) (by decide) rfl rfl hl.1 rfl (Nat.le_of_ble_eq_true rfl) dX5_low_168 ⟨Nat.zero_le _, Nat.zero_le _⟩ (fun H locs hP hD hS => ?_)
                refine lv_iload_n hx hb dX5_low_171 rfl (lv_at hl 3 rfl) ?_
                refine lv_bipush (v := 6) hx hb dX5_low_172 (by decide) ?_
                refine lv_icmp_ne (tgt := 182) hx hb dX5_low_174 (by decide) (fun c_30 => ?_) (fun c_30 => ?_)
                · refine lv_bipush (v := 7) hx hb dX5_low_182 (by decide) ?_
                  have hF : rLow f a p1 p2 = ((7 : Int32), f_29, rSet f_29 a p1 r_29) := by
                    unfold rLow
                    refine (if_pos c_1).trans ?_
                    refine (if_neg c_22).trans ?_
                    refine (if_neg c_23).trans ?_
                    refine (if_neg c_24).trans ?_
                    refine (if_neg c_25).trans ?_
                    refine (if_pos c_26).trans ?_
                    refine (if_pos c_27).trans ?_
                    rewrite [hB_29]
                    dsimp only
                    refine (if_neg c_30).trans ?_
                    rfl
                  rw [hF]
                  exact KC.reti hx hb hr hlocks hK hP hD hS dX5_low_184 rfl
                · refine lv_bipush (v := 10) hx hb dX5_low_177 (by decide) ?_
                  refine lv_goto (tgt := 184) hx hb dX5_low_179 (by decide) ?_
                  have hF : rLow f a p1 p2 = ((10 : Int32), f_29, rSet f_29 a p1 r_29) := by
                    unfold rLow
                    refine (if_pos c_1).trans ?_
                    refine (if_neg c_22).trans ?_
                    refine (if_neg c_23).trans ?_
                    refine (if_neg c_24).trans ?_
                    refine (if_neg c_25).trans ?_
                    refine (if_pos c_26).trans ?_
                    refine (if_pos c_27).trans ?_
                    rewrite [hB_29]
                    dsimp only
                    refine (if_pos c_30).trans ?_
                    rfl
                  rw [hF]
                  exact KC.reti hx hb hr hlocks hK hP hD hS dX5_low_184 rfl
            · refine lv_aload_n hx hb dX5_low_128 rfl (lv_at hl 2 rfl) ?_
              refine lv_iload_n hx hb dX5_low_129 rfl (lv_at hl 3 rfl) ?_
              refine lv_iload_n hx hb dX5_low_130 rfl (lv_at hl 4 rfl) ?_
              refine lv_iconst (v := 4) hx hb dX5_low_131 (by decide) ?_
              refine lv_icmp_ne (tgt := 139) hx hb dX5_low_132 (by decide) (fun c_31 => ?_) (fun c_31 => ?_)
              · refine lv_iconst (v := -1) hx hb dX5_low_139 (by decide) ?_
                obtain ⟨f_32, a_32, hB_32⟩ := k_ex2 (rCount f a p1 (-1 : Int32))
                have kc_32 := kX5_count l D cI o f a p1 (-1 : Int32) h1
                rw [hB_32] at kc_32; dsimp only at kc_32
                refine KC.callv (ci := 5) (rest := []) (wt := wR cI o f_32 a_32) (kc_32) (cwV 2 hts gX5_low_X5_count rfl rfl rfl (by decide +kernel) ⟨Nat.le_of_ble_eq_true rfl, Nat.le_of_ble_eq_true rfl⟩) ⟨hx, hb, hml, hown, hts⟩ hK hP hD hS hA rfl rfl rfl [0, 1, 2, 3, 4, 5, 6] [] [0, 1, 2, 3, 4, 5, 6] (by decide) rfl (wr := []) rfl (by decide) (by decide) (by decide) rfl rfl hl.1 rfl (Nat.le_of_ble_eq_true rfl) dX5_low_140 ⟨Nat.zero_le _, Nat.zero_le _⟩ (fun H locs hP hD hS => ?_)
                refine lv_iload_n hx hb dX5_low_143 rfl (lv_at hl 3 rfl) ?_
                refine lv_bipush (v := 6) hx hb dX5_low_144 (by decide) ?_
                refine lv_icmp_ne (tgt := 154) hx hb dX5_low_146 (by decide) (fun c_33 => ?_) (fun c_33 => ?_)
                · refine lv_iconst (v := 5) hx hb dX5_low_154 (by decide) ?_
                  have hF : rLow f a p1 p2 = ((5 : Int32), f_32, a_32) := by
                    unfold rLow
                    refine (if_pos c_1).trans ?_
                    refine (if_neg c_22).trans ?_
                    refine (if_neg c_23).trans ?_
                    refine (if_neg c_24).trans ?_
                    refine (if_neg c_25).trans ?_
                    refine (if_neg c_26).trans ?_
                    refine (if_neg c_31).trans ?_
                    rewrite [hB_32]
                    dsimp only
                    refine (if_neg c_33).trans ?_
                    rfl
                  rw [hF]
                  exact KC.reti hx hb hr hlocks hK hP hD hS dX5_low_155 rfl
                · refine lv_bipush (v := 10) hx hb dX5_low_149 (by decide) ?_
                  refine lv_goto (tgt := 155) hx hb dX5_low_151 (by decide) ?_
                  have hF : rLow f a p1 p2 = ((10 : Int32), f_32, a_32) := by
                    unfold rLow
                    refine (if_pos c_1).trans ?_
                    refine (if_neg c_22).trans ?_
                    refine (if_neg c_23).trans ?_
                    refine (if_neg c_24).trans ?_
                    refine (if_neg c_25).trans ?_
                    refine (if_neg c_26).trans ?_
                    refine (if_neg c_31).trans ?_
                    rewrite [hB_32]
                    dsimp only
                    refine (if_pos c_33).trans ?_
                    rfl
                  rw [hF]
                  exact KC.reti hx hb hr hlocks hK hP hD hS dX5_low_155 rfl
              · refine lv_iconst (v := 1) hx hb dX5_low_135 (by decide) ?_
                refine lv_goto (tgt := 140) hx hb dX5_low_136 (by decide) ?_
                obtain ⟨f_34, a_34, hB_34⟩ := k_ex2 (rCount f a p1 (1 : Int32))
                have kc_34 := kX5_count l D cI o f a p1 (1 : Int32) h1
                rw [hB_34] at kc_34; dsimp only at kc_34
                refine KC.callv (ci := 5) (rest := []) (wt := wR cI o f_34 a_34) (kc_34) (cwV 2 hts gX5_low_X5_count rfl rfl rfl (by decide +kernel) ⟨Nat.le_of_ble_eq_true rfl, Nat.le_of_ble_eq_true rfl⟩) ⟨hx, hb, hml, hown, hts⟩ hK hP hD hS hA rfl rfl rfl [0, 1, 2, 3, 4, 5, 6] [] [0, 1, 2, 3, 4, 5, 6] (by decide) rfl (wr := []) rfl (by decide) (by decide) (by decide) rfl rfl hl.1 rfl (Nat.le_of_ble_eq_true rfl) dX5_low_140 ⟨Nat.zero_le _, Nat.zero_le _⟩ (fun H locs hP hD hS => ?_)
                refine lv_iload_n hx hb dX5_low_143 rfl (lv_at hl 3 rfl) ?_
                refine lv_bipush (v := 6) hx hb dX5_low_144 (by decide) ?_
                refine lv_icmp_ne (tgt := 154) hx hb dX5_low_146 (by decide) (fun c_35 => ?_) (fun c_35 => ?_)
                · refine lv_iconst (v := 5) hx hb dX5_low_154 (by decide) ?_
                  have hF : rLow f a p1 p2 = ((5 : Int32), f_34, a_34) := by
                    unfold rLow
                    refine (if_pos c_1).trans ?_
                    refine (if_neg c_22).trans ?_
                    refine (if_neg c_23).trans ?_
                    refine (if_neg c_24).trans ?_
                    refine (if_neg c_25).trans ?_
                    refine (if_neg c_26).trans ?_
                    refine (if_pos c_31).trans ?_
                    rewrite [hB_34]
                    dsimp only
                    refine (if_neg c_35).trans ?_
                    rfl
                  rw [hF]
                  exact KC.reti hx hb hr hlocks hK hP hD hS dX5_low_155 rfl
                · refine lv_bipush (v := 10) hx hb dX5_low_149 (by decide) ?_
                  refine lv_goto (tgt := 155) hx hb dX5_low_151 (by decide) ?_
                  have hF : rLow f a p1 p2 = ((10 : Int32), f_34, a_34) := by
                    unfold rLow
                    refine (if_pos c_1).trans ?_
                    refine (if_neg c_22).trans ?_
                    refine (if_neg c_23).trans ?_
                    refine (if_neg c_24).trans ?_
                    refine (if_neg c_25).trans ?_
                    refine (if_neg c_26).trans ?_
                    refine (if_pos c_31).trans ?_
                    rewrite [hB_34]
                    dsimp only
                    refine (if_pos c_35).trans ?_
                    rfl
                  rw [hF]
                  exact KC.reti hx hb hr hlocks hK hP hD hS dX5_low_155 rfl
          · refine lv_aload_n hx hb dX5_low_96 rfl (lv_at hl 2 rfl) ?_
            refine lv_iload_n hx hb dX5_low_97 rfl (lv_at hl 1 rfl) ?_
            refine lv_aload_n hx hb dX5_low_98 rfl (lv_at hl 2 rfl) ?_
            refine lv_iload_n hx hb dX5_low_99 rfl (lv_at hl 1 rfl) ?_
            refine KC.calli (ci := 5) (rest := [.int (p1 >>> ((1 : Int32) &&& 31)), .ref (o 20)]) (wt := wR cI o f a) (kX5_pair l D cI o f a (p1 >>> ((1 : Int32) &&& 31)) (xin_sh1 h1)) (cwV 1 hts gX5_low_X5_pair rfl rfl rfl (by decide +kernel) ⟨Nat.le_of_ble_eq_true rfl, Nat.le_of_ble_eq_true rfl⟩) ⟨hx, hb, hml, hown, hts⟩ hK hP hD hS hA rfl rfl rfl [0, 1, 2, 3, 4, 5, 6] [] [0, 1, 2, 3, 4, 5, 6] (by decide) rfl (wr := []) rfl (by decide) (by decide) (by decide) rfl rfl hl.1 rfl (Nat.le_of_ble_eq_true rfl) dX5_low_100 ⟨Nat.zero_le _, Nat.zero_le _⟩ (fun H locs hP hD hS => ?_)
            refine lv_iload hx hb dX5_low_103 (lv_at hl 0 rfl) ?_
            refine lv_if_eq (tgt := 112) hx hb dX5_low_105 (by decide) (fun c_36 => ?_) (fun c_36 => ?_)
            · exact absurd c_36 (by decide)
            · refine lv_iconst (v := -1) hx hb dX5_low_108 (by decide) ?_
              refine lv_goto (tgt := 113) hx hb dX5_low_109 (by decide) ?_
              refine lv_iadd hx hb dX5_low_113 ?_
              refine lv_ldc (v := 65535) hx hb hown (hts (.constant RX5 32 65535) (List.mem_cons_of_mem _ (List.mem_append_left _ (List.mem_append_left _ (List.mem_of_getElem? (i := 1) rfl))))) dX5_low_114 ?_
              refine lv_iand hx hb dX5_low_116 ?_
              obtain ⟨f_37, a_37, hB_37⟩ := k_ex2 (rSetPair f a (p1 >>> ((1 : Int32) &&& 31)) (((rPair f a (p1 >>> ((1 : Int32) &&& 31))) + (-1 : Int32)) &&& (65535 : Int32)))
              have kc_37 := kX5_setPair l D cI o f a (p1 >>> ((1 : Int32) &&& 31)) (((rPair f a (p1 >>> ((1 : Int32) &&& 31))) + (-1 : Int32)) &&& (65535 : Int32)) (xin_sh1 h1)
              rw [hB_37] at kc_37; dsimp only at kc_37
              refine KC.callv (ci := 5) (rest := []) (wt := wR cI o f_37 a_37) (kc_37) (cwV 2 hts gX5_low_X5_setPair rfl rfl rfl (by decide +kernel) ⟨Nat.le_of_ble_eq_true rfl, Nat.le_of_ble_eq_true rfl⟩) ⟨hx, hb, hml, hown, hts⟩ hK hP hD hS hA rfl rfl rfl [0, 1, 2, 3, 4, 5, 6] [] [0, 1, 2, 3, 4, 5, 6] (by decide) rfl (wr := []) rfl (by decide) (by decide) (by decide) rfl rfl hl.1 rfl (Nat.le_of_ble_eq_true rfl) dX5_low_117 ⟨Nat.zero_le _, Nat.zero_le _⟩ (fun H locs hP hD hS => ?_)
              refine lv_iconst (v := 5) hx hb dX5_low_120 (by decide) ?_
              have hF : rLow f a p1 p2 = ((5 : Int32), f_37, a_37) := by
                unfold rLow
                refine (if_pos c_1).trans ?_
                refine (if_neg c_22).trans ?_
                refine (if_neg c_23).trans ?_
                refine (if_neg c_24).trans ?_
                refine (if_pos c_25).trans ?_
                rewrite [hB_37]
                rfl
              rw [hF]
              exact KC.reti hx hb hr hlocks hK hP hD hS dX5_low_121 rfl
        · refine lv_aload_n hx hb dX5_low_85 rfl (lv_at hl 2 rfl) ?_
          refine lv_iload_n hx hb dX5_low_86 rfl (lv_at hl 3 rfl) ?_
          obtain ⟨r_38, f_38, a_38, hB_38⟩ := k_ex3 (rMoved f a p1)
          have kc_38 := kX5_moved l D cI o f a p1 h1
          rw [hB_38] at kc_38; dsimp only at kc_38
          refine KC.calli (ci := 5) (rest := []) (wt := wR cI o f_38 a_38) (kc_38) (cwV 1 hts gX5_low_X5_moved rfl rfl rfl (by decide +kernel) ⟨Nat.le_of_ble_eq_true rfl, Nat.le_of_ble_eq_true rfl⟩) ⟨hx, hb, hml, hown, hts⟩ hK hP hD hS hA rfl rfl rfl [0, 1, 2, 3, 4, 5, 6] [] [0, 1, 2, 3, 4, 5, 6] (by decide) rfl (wr := []) rfl (by decide) (by decide) (by decide) rfl rfl hl.1 rfl (Nat.le_of_ble_eq_true rfl) dX5_low_87 ⟨Nat.zero_le _, Nat.zero_le _⟩ (fun H locs hP hD hS => ?_)
          have hF : rLow f a p1 p2 = (r_38, f_38, a_38) := by
            unfold rLow
            refine (if_pos c_1).trans ?_
            refine (if_neg c_22).trans ?_
            refine (if_neg c_23).trans ?_
            refine (if_pos c_24).trans ?_
            rewrite [hB_38]
            rfl
          rw [hF]
          exact KC.reti hx hb hr hlocks hK hP hD hS dX5_low_90 rfl
      · refine lv_iload hx hb dX5_low_29 (lv_at hl 0 rfl) ?_
        refine lv_if_eq (tgt := 68) hx hb dX5_low_31 (by decide) (fun c_39 => ?_) (fun c_39 => ?_)
        · exact absurd c_39 (by decide)
        · refine lv_aload_n hx hb dX5_low_34 rfl (lv_at hl 2 rfl) ?_
          refine KC.calli (ci := 5) (rest := []) (wt := wR cI o f a) (kX5_hl l D cI o f a) (cwV 0 hts gX5_low_X5_hl rfl rfl rfl (by decide +kernel) ⟨Nat.le_of_ble_eq_true rfl, Nat.le_of_ble_eq_true rfl⟩) ⟨hx, hb, hml, hown, hts⟩ hK hP hD hS hA rfl rfl rfl [0, 1, 2, 3, 4, 5, 6] [] [0, 1, 2, 3, 4, 5, 6] (by decide) rfl (wr := []) rfl (by decide) (by decide) (by decide) rfl rfl hl.1 rfl (Nat.le_of_ble_eq_true rfl) dX5_low_35 ⟨Nat.zero_le _, Nat.zero_le _⟩ (fun H locs hP hD hS => ?_)
          refine lv_aload_n hx hb dX5_low_38 rfl (lv_at hl 2 rfl) ?_
          refine lv_iload_n hx hb dX5_low_39 rfl (lv_at hl 1 rfl) ?_
          refine KC.calli (ci := 5) (rest := [.int (rHl f a)]) (wt := wR cI o f a) (kX5_pair l D cI o f a (p1 >>> ((1 : Int32) &&& 31)) (xin_sh1 h1)) (cwV 1 hts gX5_low_X5_pair rfl rfl rfl (by decide +kernel) ⟨Nat.le_of_ble_eq_true rfl, Nat.le_of_ble_eq_true rfl⟩) ⟨hx, hb, hml, hown, hts⟩ hK hP hD hS hA rfl rfl rfl [0, 1, 2, 3, 4, 5, 6] [] [0, 1, 2, 3, 4, 5, 6] (by decide) rfl (wr := []) rfl (by decide) (by decide) (by decide) rfl rfl hl.1 rfl (Nat.le_of_ble_eq_true rfl) dX5_low_40 ⟨Nat.zero_le _, Nat.zero_le _⟩ (fun H locs hP hD hS => ?_)
          refine lv_iadd hx hb dX5_low_43 ?_
          refine lv_istore (lv' := [(5, .int _), (4, .int _), (3, .int _), (0, .ref _), (1, .int _), (2, .int _)]) hx hb dX5_low_44 hl (by decide) rfl (fun ls hl => ?_)
          refine lv_aload_n hx hb dX5_low_46 rfl (lv_at hl 3 rfl) ?_
          refine lv_iload hx hb dX5_low_47 (lv_at hl 0 rfl) ?_
          refine lv_bipush (v := 16) hx hb dX5_low_49 (by decide) ?_
          refine lv_ishr hx hb dX5_low_51 ?_
          refine pu_R_f16 (v := ((rHl f a) + (rPair f a (p1 >>> ((1 : Int32) &&& 31)))) >>> ((16 : Int32) &&& 31)) hx hb hts hi5 hown hK hP hD hS (hts (.fieldLink RX5 66 "InvaderBoardModel" "carry" "I") (List.mem_cons_of_mem _ (List.mem_append_left _ (List.mem_append_left _ (List.mem_of_getElem? (i := 0) rfl))))) dX5_low_52 (fun H locs hP hD hS => ?_)
          refine lv_aload_n hx hb dX5_low_55 rfl (lv_at hl 3 rfl) ?_
          refine lv_iconst (v := 2) hx hb dX5_low_56 (by decide) ?_
          refine lv_iload hx hb dX5_low_57 (lv_at hl 0 rfl) ?_
          refine lv_ldc (v := 65535) hx hb hown (hts (.constant RX5 32 65535) (List.mem_cons_of_mem _ (List.mem_append_left _ (List.mem_append_left _ (List.mem_of_getElem? (i := 1) rfl))))) dX5_low_59 ?_
          refine lv_iand hx hb dX5_low_61 ?_
          obtain ⟨f_40, a_40, hB_40⟩ := k_ex2 (rSetPair (upd f 16 (((rHl f a) + (rPair f a (p1 >>> ((1 : Int32) &&& 31)))) >>> ((16 : Int32) &&& 31))) a (2 : Int32) (((rHl f a) + (rPair f a (p1 >>> ((1 : Int32) &&& 31)))) &&& (65535 : Int32)))
          have kc_40 := kX5_setPair l D cI o (upd f 16 (((rHl f a) + (rPair f a (p1 >>> ((1 : Int32) &&& 31)))) >>> ((16 : Int32) &&& 31))) a (2 : Int32) (((rHl f a) + (rPair f a (p1 >>> ((1 : Int32) &&& 31)))) &&& (65535 : Int32)) (by unfold vp_in; decide)
          rw [hB_40] at kc_40; dsimp only at kc_40
          refine KC.callv (ci := 5) (rest := []) (wt := wR cI o f_40 a_40) (kc_40) (cwV 2 hts gX5_low_X5_setPair rfl rfl rfl (by decide +kernel) ⟨Nat.le_of_ble_eq_true rfl, Nat.le_of_ble_eq_true rfl⟩) ⟨hx, hb, hml, hown, hts⟩ hK hP hD hS hA rfl rfl rfl [0, 1, 2, 3, 4, 5, 6] [] [0, 1, 2, 3, 4, 5, 6] (by decide) rfl (wr := []) rfl (by decide) (by decide) (by decide) rfl rfl hl.1 rfl (Nat.le_of_ble_eq_true rfl) dX5_low_62 ⟨Nat.zero_le _, Nat.zero_le _⟩ (fun H locs hP hD hS => ?_)
          refine lv_goto (tgt := 77) hx hb dX5_low_65 (by decide) ?_
          refine lv_bipush (v := 10) hx hb dX5_low_77 (by decide) ?_
          have hF : rLow f a p1 p2 = ((10 : Int32), f_40, a_40) := by
            unfold rLow
            refine (if_pos c_1).trans ?_
            refine (if_neg c_22).trans ?_
            refine (if_pos c_23).trans ?_
            rewrite [hB_40]
            rfl
          rw [hF]
          exact KC.reti hx hb hr hlocks hK hP hD hS dX5_low_79 rfl
    · refine lv_iconst (v := 4) hx hb dX5_low_22 (by decide) ?_
      have hF : rLow f a p1 p2 = ((4 : Int32), f, a) := by
        unfold rLow
        refine (if_pos c_1).trans ?_
        refine (if_pos c_22).trans ?_
        rfl
      rw [hF]
      exact KC.reti hx hb hr hlocks hK hP hD hS dX5_low_23 rfl
