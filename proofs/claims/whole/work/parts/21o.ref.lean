def rHigh (f : Nat → Int32) (a : Nat → Nat → Int32) (p1 : Int32) (p2 : Int32) : Int32 × (Nat → Int32) × (Nat → Nat → Int32) :=
  if p2 = 0 then if rHolds f a p1 = 0 then ((5 : Int32), f, a)
    else (match rPop f a with
      | (r_27, f_27) => ((11 : Int32), upd f_27 1 r_27, a))
  else if p2 = (1 : Int32) then if p1 &&& (1 : Int32) = 0 then (match rPopped f a (p1 >>> ((1 : Int32) &&& 31)) with
        | (r_25, f_25, a_25) => (r_25, f_25, a_25))
      else (match rOdd f a p1 with
        | (r_24, f_24) => (r_24, f_24, a))
    else if p2 = (2 : Int32) then (match rNextTwo f a with
        | (r_21, f_21) => if rHolds f_21 a p1 = 0 then ((10 : Int32), upd f_21 1 (f_21 1), a)
          else ((10 : Int32), upd f_21 1 r_21, a))
      else if p2 = (3 : Int32) then (match rSingle f a p1 with
          | (r_20, f_20, a_20) => (r_20, f_20, a_20))
        else if p2 = (4 : Int32) then (match rNextTwo f a with
            | (r_17, f_17) => if rHolds f_17 a p1 = 0 then ((11 : Int32), f_17, a)
              else (match rCall f_17 a r_17 with
                | (r_19, f_19, a_19) => (r_19, f_19, a_19)))
          else if p2 = (5 : Int32) then if p1 &&& (1 : Int32) = (1 : Int32) then (match rNextTwo f a with
                | (r_15, f_15) => (match rCall f_15 a r_15 with
                  | (r_16, f_16, a_16) => (r_16, f_16, a_16)))
              else if p1 = (6 : Int32) then (match rPush f a ((((a 2) (7 : Int32).toNatClampNeg) <<< ((8 : Int32) &&& 31)) ||| (rFlags f a)) with
                  | (f_14, a_14) => ((11 : Int32), f_14, a_14))
                else (match rPush f a (rPair f a (p1 >>> ((1 : Int32) &&& 31))) with
                  | (f_13, a_13) => ((11 : Int32), f_13, a_13))
            else if p2 = (6 : Int32) then (match rNext f a with
                | (r_9, f_9) => (match rAlu f_9 a p1 r_9 with
                  | (f_10, a_10) => ((7 : Int32), f_10, a_10)))
              else (match rPush f a (f 1) with
                | (f_8, a_8) => ((11 : Int32), upd f_8 1 ((8 : Int32) * p1), a_8))
set_option maxHeartbeats 4000000 in
set_option maxRecDepth 100000 in
theorem kX5_high (l : Launch) (D : va_G) (cI : ClassId) (o : Nat → Nat) (f : Nat → Int32) (a : Nat → Nat → Int32) (p1 : Int32) (p2 : Int32) (h1 : vp_in p1 8) (hR : ∀ q : Int32, ¬ rRead f a q < 0) : KC l yX5_high wsX5_high 4 [.ref (o 20), .int p1, .int p2] D cI (wR cI o f a) (wR cI o ((rHigh f a p1 p2).2.1) ((rHigh f a p1 p2).2.2)) (some (.int (rHigh f a p1 p2).1)) := by
  refine KC.of (cc := cX5_high) (maxL := 4) (by decide) rfl (Nat.le_of_ble_eq_true rfl) ?_
  intro p e s m below meth c A hx hb hr hts hown hlocks hml hK hP hD hS hA ls hl
  have hl : lv_has ls 4 [(0, .ref (o 20)), (1, .int p1), (2, .int p2)] := hl
  have hown : s.vm.findClass RX5 = some m.cls := hown
  have hi5 : ∀ w ∈ u_ws RX5 TX5 24, w ∈ wsX5_high := fun w h => List.mem_cons_of_mem _ (List.mem_append_right _ h)
  refine lv_iload_n hx hb dX5_high_0 rfl (lv_at hl 2 rfl) ?_
  refine lv_if_ne (tgt := 25) hx hb dX5_high_1 (by decide) (fun c_1 => ?_) (fun c_1 => ?_)
  · refine lv_iload_n hx hb dX5_high_25 rfl (lv_at hl 2 rfl) ?_
    refine lv_iconst (v := 1) hx hb dX5_high_26 (by decide) ?_
    refine lv_icmp_ne (tgt := 52) hx hb dX5_high_27 (by decide) (fun c_2 => ?_) (fun c_2 => ?_)
    · refine lv_iload_n hx hb dX5_high_52 rfl (lv_at hl 2 rfl) ?_
      refine lv_iconst (v := 2) hx hb dX5_high_53 (by decide) ?_
      refine lv_icmp_ne (tgt := 85) hx hb dX5_high_54 (by decide) (fun c_3 => ?_) (fun c_3 => ?_)
      · refine lv_iload_n hx hb dX5_high_85 rfl (lv_at hl 2 rfl) ?_
        refine lv_iconst (v := 3) hx hb dX5_high_86 (by decide) ?_
        refine lv_icmp_ne (tgt := 96) hx hb dX5_high_87 (by decide) (fun c_4 => ?_) (fun c_4 => ?_)
        · refine lv_iload_n hx hb dX5_high_96 rfl (lv_at hl 2 rfl) ?_
          refine lv_iconst (v := 4) hx hb dX5_high_97 (by decide) ?_
          refine lv_icmp_ne (tgt := 125) hx hb dX5_high_98 (by decide) (fun c_5 => ?_) (fun c_5 => ?_)
          · refine lv_iload_n hx hb dX5_high_125 rfl (lv_at hl 2 rfl) ?_
            refine lv_iconst (v := 5) hx hb dX5_high_126 (by decide) ?_
            refine lv_icmp_ne (tgt := 184) hx hb dX5_high_127 (by decide) (fun c_6 => ?_) (fun c_6 => ?_)
            · refine lv_iload_n hx hb dX5_high_184 rfl (lv_at hl 2 rfl) ?_
              refine lv_bipush (v := 6) hx hb dX5_high_185 (by decide) ?_
              refine lv_icmp_ne (tgt := 202) hx hb dX5_high_187 (by decide) (fun c_7 => ?_) (fun c_7 => ?_)
              · refine lv_aload_n hx hb dX5_high_202 rfl (lv_at hl 0 rfl) ?_
                refine lv_aload_n hx hb dX5_high_203 rfl (lv_at hl 0 rfl) ?_
                refine va_get (ci := 5) (v := .int (f 1)) (C := RX5) (T := TX5) (N := 24) hx hb hts hi5 hown hK hP 0 rfl rfl 5 (by decide) (hts (.fieldLink RX5 33 "InvaderBoardModel" "pc" "I") (List.mem_cons_of_mem _ (List.mem_append_left _ (List.mem_append_left _ (List.mem_of_getElem? (i := 0) rfl))))) (fun _ h9 => h9) rfl dX5_high_204 ?_
                obtain ⟨f_8, a_8, hB_8⟩ := k_ex2 (rPush f a (f 1))
                have kc_8 := kX5_push l D cI o f a (f 1)
                rw [hB_8] at kc_8; dsimp only at kc_8
                refine KC.callv (ci := 5) (rest := []) (wt := wR cI o f_8 a_8) (kc_8) (cwV 1 hts gX5_high_X5_push rfl rfl rfl (by decide +kernel) ⟨Nat.le_of_ble_eq_true rfl, Nat.le_of_ble_eq_true rfl⟩) ⟨hx, hb, hml, hown, hts⟩ hK hP hD hS hA rfl rfl rfl [0, 1, 2, 3, 4, 5, 6] [] [0, 1, 2, 3, 4, 5, 6] (by decide) rfl (wr := []) rfl (by decide) (by decide) (by decide) rfl rfl hl.1 rfl (Nat.le_of_ble_eq_true rfl) dX5_high_207 ⟨Nat.zero_le _, Nat.zero_le _⟩ (fun H locs hP hD hS => ?_)
                refine lv_aload_n hx hb dX5_high_210 rfl (lv_at hl 0 rfl) ?_
                refine lv_bipush (v := 8) hx hb dX5_high_211 (by decide) ?_
                refine lv_iload_n hx hb dX5_high_213 rfl (lv_at hl 1 rfl) ?_
                refine lv_imul hx hb dX5_high_214 ?_
                refine pu_R_f1 (v := (8 : Int32) * p1) hx hb hts hi5 hown hK hP hD hS (hts (.fieldLink RX5 33 "InvaderBoardModel" "pc" "I") (List.mem_cons_of_mem _ (List.mem_append_left _ (List.mem_append_left _ (List.mem_of_getElem? (i := 0) rfl))))) dX5_high_215 (fun H locs hP hD hS => ?_)
                refine lv_bipush (v := 11) hx hb dX5_high_218 (by decide) ?_
                have hF : rHigh f a p1 p2 = ((11 : Int32), upd f_8 1 ((8 : Int32) * p1), a_8) := by
                  unfold rHigh
                  refine (if_neg c_1).trans ?_
                  refine (if_neg c_2).trans ?_
                  refine (if_neg c_3).trans ?_
                  refine (if_neg c_4).trans ?_
                  refine (if_neg c_5).trans ?_
                  refine (if_neg c_6).trans ?_
                  refine (if_neg c_7).trans ?_
                  rewrite [hB_8]
                  rfl
                rw [hF]
                exact KC.reti hx hb hr hlocks hK hP hD hS dX5_high_220 rfl
              · refine lv_aload_n hx hb dX5_high_190 rfl (lv_at hl 0 rfl) ?_
                refine lv_iload_n hx hb dX5_high_191 rfl (lv_at hl 1 rfl) ?_
                refine lv_aload_n hx hb dX5_high_192 rfl (lv_at hl 0 rfl) ?_
                obtain ⟨r_9, f_9, hB_9⟩ := k_ex2 (rNext f a)
                have kc_9 := kX5_next l D cI o f a
                rw [hB_9] at kc_9; dsimp only at kc_9
                refine KC.calli (ci := 5) (rest := [.int p1, .ref (o 20)]) (wt := wR cI o f_9 a) (kc_9) (cwV 0 hts gX5_high_X5_next rfl rfl rfl (by decide +kernel) ⟨Nat.le_of_ble_eq_true rfl, Nat.le_of_ble_eq_true rfl⟩) ⟨hx, hb, hml, hown, hts⟩ hK hP hD hS hA rfl rfl rfl [0, 1, 2, 3, 4, 5, 6] [] [0, 1, 2, 3, 4, 5, 6] (by decide) rfl (wr := []) rfl (by decide) (by decide) (by decide) rfl rfl hl.1 rfl (Nat.le_of_ble_eq_true rfl) dX5_high_193 ⟨Nat.zero_le _, Nat.zero_le _⟩ (fun H locs hP hD hS => ?_)
                obtain ⟨f_10, a_10, hB_10⟩ := k_ex2 (rAlu f_9 a p1 r_9)
                have kc_10 := kX5_alu l D cI o f_9 a p1 r_9
                rw [hB_10] at kc_10; dsimp only at kc_10
                refine KC.callv (ci := 5) (rest := []) (wt := wR cI o f_10 a_10) (kc_10) (cwV 2 hts gX5_high_X5_alu rfl rfl rfl (by decide +kernel) ⟨Nat.le_of_ble_eq_true rfl, Nat.le_of_ble_eq_true rfl⟩) ⟨hx, hb, hml, hown, hts⟩ hK hP hD hS hA rfl rfl rfl [0, 1, 2, 3, 4, 5, 6] [] [0, 1, 2, 3, 4, 5, 6] (by decide) rfl (wr := []) rfl (by decide) (by decide) (by decide) rfl rfl hl.1 rfl (Nat.le_of_ble_eq_true rfl) dX5_high_196 ⟨Nat.zero_le _, Nat.zero_le _⟩ (fun H locs hP hD hS => ?_)
                refine lv_bipush (v := 7) hx hb dX5_high_199 (by decide) ?_
                have hF : rHigh f a p1 p2 = ((7 : Int32), f_10, a_10) := by
                  unfold rHigh
                  refine (if_neg c_1).trans ?_
                  refine (if_neg c_2).trans ?_
                  refine (if_neg c_3).trans ?_
                  refine (if_neg c_4).trans ?_
                  refine (if_neg c_5).trans ?_
                  refine (if_neg c_6).trans ?_
                  refine (if_pos c_7).trans ?_
                  rewrite [hB_9]
                  dsimp only
                  rewrite [hB_10]
                  rfl
                rw [hF]
                exact KC.reti hx hb hr hlocks hK hP hD hS dX5_high_201 rfl
            · refine lv_iload_n hx hb dX5_high_130 rfl (lv_at hl 1 rfl) ?_
              refine lv_iconst (v := 1) hx hb dX5_high_131 (by decide) ?_
              refine lv_iand hx hb dX5_high_132 ?_
              refine lv_iconst (v := 1) hx hb dX5_high_133 (by decide) ?_
              refine lv_icmp_ne (tgt := 146) hx hb dX5_high_134 (by decide) (fun c_11 => ?_) (fun c_11 => ?_)
              · refine lv_aload_n hx hb dX5_high_146 rfl (lv_at hl 0 rfl) ?_
                refine lv_iload_n hx hb dX5_high_147 rfl (lv_at hl 1 rfl) ?_
                refine lv_bipush (v := 6) hx hb dX5_high_148 (by decide) ?_
                refine lv_icmp_ne (tgt := 171) hx hb dX5_high_150 (by decide) (fun c_12 => ?_) (fun c_12 => ?_)
                · refine lv_aload_n hx hb dX5_high_171 rfl (lv_at hl 0 rfl) ?_
                  refine lv_iload_n hx hb dX5_high_172 rfl (lv_at hl 1 rfl) ?_
                  refine lv_iconst (v := 1) hx hb dX5_high_173 (by decide) ?_
                  refine lv_ishr hx hb dX5_high_174 ?_
                  refine KC.calli (ci := 5) (rest := [.ref (o 20)]) (wt := wR cI o f a) (kX5_pair l D cI o f a (p1 >>> ((1 : Int32) &&& 31)) (xin_sh1 h1)) (cwV 1 hts gX5_high_X5_pair rfl rfl rfl (by decide +kernel) ⟨Nat.le_of_ble_eq_true rfl, Nat.le_of_ble_eq_true rfl⟩) ⟨hx, hb, hml, hown, hts⟩ hK hP hD hS hA rfl rfl rfl [0, 1, 2, 3, 4, 5, 6] [] [0, 1, 2, 3, 4, 5, 6] (by decide) rfl (wr := []) rfl (by decide) (by decide) (by decide) rfl rfl hl.1 rfl (Nat.le_of_ble_eq_true rfl) dX5_high_175 ⟨Nat.zero_le _, Nat.zero_le _⟩ (fun H locs hP hD hS => ?_)
                  obtain ⟨f_13, a_13, hB_13⟩ := k_ex2 (rPush f a (rPair f a (p1 >>> ((1 : Int32) &&& 31))))
                  have kc_13 := kX5_push l D cI o f a (rPair f a (p1 >>> ((1 : Int32) &&& 31)))
                  rw [hB_13] at kc_13; dsimp only at kc_13
                  refine KC.callv (ci := 5) (rest := []) (wt := wR cI o f_13 a_13) (kc_13) (cwV 1 hts gX5_high_X5_push rfl rfl rfl (by decide +kernel) ⟨Nat.le_of_ble_eq_true rfl, Nat.le_of_ble_eq_true rfl⟩) ⟨hx, hb, hml, hown, hts⟩ hK hP hD hS hA rfl rfl rfl [0, 1, 2, 3, 4, 5, 6] [] [0, 1, 2, 3, 4, 5, 6] (by decide) rfl (wr := []) rfl (by decide) (by decide) (by decide) rfl rfl hl.1 rfl (Nat.le_of_ble_eq_true rfl) dX5_high_178 ⟨Nat.zero_le _, Nat.zero_le _⟩ (fun H locs hP hD hS => ?_)
                  refine lv_bipush (v := 11) hx hb dX5_high_181 (by decide) ?_
                  have hF : rHigh f a p1 p2 = ((11 : Int32), f_13, a_13) := by
                    unfold rHigh
                    refine (if_neg c_1).trans ?_
                    refine (if_neg c_2).trans ?_
                    refine (if_neg c_3).trans ?_
                    refine (if_neg c_4).trans ?_
                    refine (if_neg c_5).trans ?_
                    refine (if_pos c_6).trans ?_
                    refine (if_neg c_11).trans ?_
                    refine (if_neg c_12).trans ?_
                    rewrite [hB_13]
                    rfl
                  rw [hF]
                  exact KC.reti hx hb hr hlocks hK hP hD hS dX5_high_183 rfl
                · refine lv_aload_n hx hb dX5_high_153 rfl (lv_at hl 0 rfl) ?_
                  refine va_get (ci := 5) (v := .ref (o 23)) (C := RX5) (T := TX5) (N := 24) hx hb hts hi5 hown hK hP 0 rfl rfl 3 (by decide) (hts (.fieldLink RX5 16 "InvaderBoardModel" "reg" "[I") (List.mem_cons_of_mem _ (List.mem_append_left _ (List.mem_append_left _ (List.mem_of_getElem? (i := 1) rfl))))) (fun _ h9 => h9) rfl dX5_high_154 ?_
                  refine lv_bipush (v := 7) hx hb dX5_high_157 (by decide) ?_
                  refine va_iald (f := a 2) hx hb hK hP 3 0 rfl rfl (by unfold vp_in; decide) dX5_high_159 ?_
                  refine lv_bipush (v := 8) hx hb dX5_high_160 (by decide) ?_
                  refine lv_ishl hx hb dX5_high_162 ?_
                  refine lv_aload_n hx hb dX5_high_163 rfl (lv_at hl 0 rfl) ?_
                  refine KC.calli (ci := 5) (rest := [.int (((a 2) (7 : Int32).toNatClampNeg) <<< ((8 : Int32) &&& 31)), .ref (o 20)]) (wt := wR cI o f a) (kX5_flags l D cI o f a) (cwV 0 hts gX5_high_X5_flags rfl rfl rfl (by decide +kernel) ⟨Nat.le_of_ble_eq_true rfl, Nat.le_of_ble_eq_true rfl⟩) ⟨hx, hb, hml, hown, hts⟩ hK hP hD hS hA rfl rfl rfl [0, 1, 2, 3, 4, 5, 6] [] [0, 1, 2, 3, 4, 5, 6] (by decide) rfl (wr := []) rfl (by decide) (by decide) (by decide) rfl rfl hl.1 rfl (Nat.le_of_ble_eq_true rfl) dX5_high_164 ⟨Nat.zero_le _, Nat.zero_le _⟩ (fun H locs hP hD hS => ?_)
                  refine lv_ior hx hb dX5_high_167 ?_
                  refine lv_goto (tgt := 178) hx hb dX5_high_168 (by decide) ?_
                  obtain ⟨f_14, a_14, hB_14⟩ := k_ex2 (rPush f a ((((a 2) (7 : Int32).toNatClampNeg) <<< ((8 : Int32) &&& 31)) ||| (rFlags f a)))
                  have kc_14 := kX5_push l D cI o f a ((((a 2) (7 : Int32).toNatClampNeg) <<< ((8 : Int32) &&& 31)) ||| (rFlags f a))
                  rw [hB_14] at kc_14; dsimp only at kc_14
                  refine KC.callv (ci := 5) (rest := []) (wt := wR cI o f_14 a_14) (kc_14) (cwV 1 hts gX5_high_X5_push rfl rfl rfl (by decide +kernel) ⟨Nat.le_of_ble_eq_true rfl, Nat.le_of_ble_eq_true rfl⟩) ⟨hx, hb, hml, hown, hts⟩ hK hP hD hS hA rfl rfl rfl [0, 1, 2, 3, 4, 5, 6] [] [0, 1, 2, 3, 4, 5, 6] (by decide) rfl (wr := []) rfl (by decide) (by decide) (by decide) rfl rfl hl.1 rfl (Nat.le_of_ble_eq_true rfl) dX5_high_178 ⟨Nat.zero_le _, Nat.zero_le _⟩ (fun H locs hP hD hS => ?_)
                  refine lv_bipush (v := 11) hx hb dX5_high_181 (by decide) ?_
                  have hF : rHigh f a p1 p2 = ((11 : Int32), f_14, a_14) := by
                    unfold rHigh
                    refine (if_neg c_1).trans ?_
                    refine (if_neg c_2).trans ?_
                    refine (if_neg c_3).trans ?_
                    refine (if_neg c_4).trans ?_
                    refine (if_neg c_5).trans ?_
                    refine (if_pos c_6).trans ?_
                    refine (if_neg c_11).trans ?_
                    refine (if_pos c_12).trans ?_
                    rewrite [hB_14]
                    rfl
                  rw [hF]
                  exact KC.reti hx hb hr hlocks hK hP hD hS dX5_high_183 rfl
              · refine lv_aload_n hx hb dX5_high_137 rfl (lv_at hl 0 rfl) ?_
                refine lv_aload_n hx hb dX5_high_138 rfl (lv_at hl 0 rfl) ?_
                obtain ⟨r_15, f_15, hB_15⟩ := k_ex2 (rNextTwo f a)
                have kc_15 := kX5_nextTwo l D cI o f a
                rw [hB_15] at kc_15; dsimp only at kc_15
                refine KC.calli (ci := 5) (rest := [.ref (o 20)]) (wt := wR cI o f_15 a) (kc_15) (cwV 0 hts gX5_high_X5_nextTwo rfl rfl rfl (by decide +kernel) ⟨Nat.le_of_ble_eq_true rfl, Nat.le_of_ble_eq_true rfl⟩) ⟨hx, hb, hml, hown, hts⟩ hK hP hD hS hA rfl rfl rfl [0, 1, 2, 3, 4, 5, 6] [] [0, 1, 2, 3, 4, 5, 6] (by decide) rfl (wr := []) rfl (by decide) (by decide) (by decide) rfl rfl hl.1 rfl (Nat.le_of_ble_eq_true rfl) dX5_high_139 ⟨Nat.zero_le _, Nat.zero_le _⟩ (fun H locs hP hD hS => ?_)
                obtain ⟨r_16, f_16, a_16, hB_16⟩ := k_ex3 (rCall f_15 a r_15)
                have kc_16 := kX5_call l D cI o f_15 a r_15
                rw [hB_16] at kc_16; dsimp only at kc_16
                refine KC.calli (ci := 5) (rest := []) (wt := wR cI o f_16 a_16) (kc_16) (cwV 1 hts gX5_high_X5_call rfl rfl rfl (by decide +kernel) ⟨Nat.le_of_ble_eq_true rfl, Nat.le_of_ble_eq_true rfl⟩) ⟨hx, hb, hml, hown, hts⟩ hK hP hD hS hA rfl rfl rfl [0, 1, 2, 3, 4, 5, 6] [] [0, 1, 2, 3, 4, 5, 6] (by decide) rfl (wr := []) rfl (by decide) (by decide) (by decide) rfl rfl hl.1 rfl (Nat.le_of_ble_eq_true rfl) dX5_high_142 ⟨Nat.zero_le _, Nat.zero_le _⟩ (fun H locs hP hD hS => ?_)
                have hF : rHigh f a p1 p2 = (r_16, f_16, a_16) := by
                  unfold rHigh
                  refine (if_neg c_1).trans ?_
                  refine (if_neg c_2).trans ?_
                  refine (if_neg c_3).trans ?_
                  refine (if_neg c_4).trans ?_
                  refine (if_neg c_5).trans ?_
                  refine (if_pos c_6).trans ?_
                  refine (if_pos c_11).trans ?_
                  rewrite [hB_15]
                  dsimp only
                  rewrite [hB_16]
                  rfl
                rw [hF]
                exact KC.reti hx hb hr hlocks hK hP hD hS dX5_high_145 rfl
          · refine lv_aload_n hx hb dX5_high_101 rfl (lv_at hl 0 rfl) ?_
            obtain ⟨r_17, f_17, hB_17⟩ := k_ex2 (rNextTwo f a)
            have kc_17 := kX5_nextTwo l D cI o f a
            rw [hB_17] at kc_17; dsimp only at kc_17
            refine KC.calli (ci := 5) (rest := []) (wt := wR cI o f_17 a) (kc_17) (cwV 0 hts gX5_high_X5_nextTwo rfl rfl rfl (by decide +kernel) ⟨Nat.le_of_ble_eq_true rfl, Nat.le_of_ble_eq_true rfl⟩) ⟨hx, hb, hml, hown, hts⟩ hK hP hD hS hA rfl rfl rfl [0, 1, 2, 3, 4, 5, 6] [] [0, 1, 2, 3, 4, 5, 6] (by decide) rfl (wr := []) rfl (by decide) (by decide) (by decide) rfl rfl hl.1 rfl (Nat.le_of_ble_eq_true rfl) dX5_high_102 ⟨Nat.zero_le _, Nat.zero_le _⟩ (fun H locs hP hD hS => ?_)
            refine lv_istore_n (lv' := [(3, .int _), (0, .ref _), (1, .int _), (2, .int _)]) hx hb dX5_high_105 rfl hl (by decide) rfl (fun ls hl => ?_)
            refine lv_aload_n hx hb dX5_high_106 rfl (lv_at hl 1 rfl) ?_
            refine lv_iload_n hx hb dX5_high_107 rfl (lv_at hl 2 rfl) ?_
            refine KC.calli (ci := 5) (rest := []) (wt := wR cI o f_17 a) (kX5_holds l D cI o f_17 a p1) (cwV 1 hts gX5_high_X5_holds rfl rfl rfl (by decide +kernel) ⟨Nat.le_of_ble_eq_true rfl, Nat.le_of_ble_eq_true rfl⟩) ⟨hx, hb, hml, hown, hts⟩ hK hP hD hS hA rfl rfl rfl [0, 1, 2, 3, 4, 5, 6] [] [0, 1, 2, 3, 4, 5, 6] (by decide) rfl (wr := []) rfl (by decide) (by decide) (by decide) rfl rfl hl.1 rfl (Nat.le_of_ble_eq_true rfl) dX5_high_108 ⟨Nat.zero_le _, Nat.zero_le _⟩ (fun H locs hP hD hS => ?_)
            refine lv_if_eq (tgt := 122) hx hb dX5_high_111 (by decide) (fun c_18 => ?_) (fun c_18 => ?_)
            · refine lv_bipush (v := 11) hx hb dX5_high_122 (by decide) ?_
              have hF : rHigh f a p1 p2 = ((11 : Int32), f_17, a) := by
                unfold rHigh
                refine (if_neg c_1).trans ?_
                refine (if_neg c_2).trans ?_
                refine (if_neg c_3).trans ?_
                refine (if_neg c_4).trans ?_
                refine (if_pos c_5).trans ?_
                rewrite [hB_17]
                dsimp only
                refine (if_pos c_18).trans ?_
                rfl
              rw [hF]
              exact KC.reti hx hb hr hlocks hK hP hD hS dX5_high_124 rfl
            · refine lv_aload_n hx hb dX5_high_114 rfl (lv_at hl 1 rfl) ?_
              refine lv_iload_n hx hb dX5_high_115 rfl (lv_at hl 0 rfl) ?_
              obtain ⟨r_19, f_19, a_19, hB_19⟩ := k_ex3 (rCall f_17 a r_17)
              have kc_19 := kX5_call l D cI o f_17 a r_17
              rw [hB_19] at kc_19; dsimp only at kc_19
              refine KC.calli (ci := 5) (rest := []) (wt := wR cI o f_19 a_19) (kc_19) (cwV 1 hts gX5_high_X5_call rfl rfl rfl (by decide +kernel) ⟨Nat.le_of_ble_eq_true rfl, Nat.le_of_ble_eq_true rfl⟩) ⟨hx, hb, hml, hown, hts⟩ hK hP hD hS hA rfl rfl rfl [0, 1, 2, 3, 4, 5, 6] [] [0, 1, 2, 3, 4, 5, 6] (by decide) rfl (wr := []) rfl (by decide) (by decide) (by decide) rfl rfl hl.1 rfl (Nat.le_of_ble_eq_true rfl) dX5_high_116 ⟨Nat.zero_le _, Nat.zero_le _⟩ (fun H locs hP hD hS => ?_)
              refine lv_goto (tgt := 124) hx hb dX5_high_119 (by decide) ?_
              have hF : rHigh f a p1 p2 = (r_19, f_19, a_19) := by
                unfold rHigh
                refine (if_neg c_1).trans ?_
                refine (if_neg c_2).trans ?_
                refine (if_neg c_3).trans ?_
                refine (if_neg c_4).trans ?_
                refine (if_pos c_5).trans ?_
                rewrite [hB_17]
                dsimp only
                refine (if_neg c_18).trans ?_
                rewrite [hB_19]
                rfl
              rw [hF]
              exact KC.reti hx hb hr hlocks hK hP hD hS dX5_high_124 rfl
        · refine lv_aload_n hx hb dX5_high_90 rfl (lv_at hl 0 rfl) ?_
          refine lv_iload_n hx hb dX5_high_91 rfl (lv_at hl 1 rfl) ?_
          obtain ⟨r_20, f_20, a_20, hB_20⟩ := k_ex3 (rSingle f a p1)
          have kc_20 := kX5_single l D cI o f a p1 hR
          rw [hB_20] at kc_20; dsimp only at kc_20
          refine KC.calli (ci := 5) (rest := []) (wt := wR cI o f_20 a_20) (kc_20) (cwV 1 hts gX5_high_X5_single rfl rfl rfl (by decide +kernel) ⟨Nat.le_of_ble_eq_true rfl, Nat.le_of_ble_eq_true rfl⟩) ⟨hx, hb, hml, hown, hts⟩ hK hP hD hS hA rfl rfl rfl [0, 1, 2, 3, 4, 5, 6] [] [0, 1, 2, 3, 4, 5, 6] (by decide) rfl (wr := []) rfl (by decide) (by decide) (by decide) rfl rfl hl.1 rfl (Nat.le_of_ble_eq_true rfl) dX5_high_92 ⟨Nat.zero_le _, Nat.zero_le _⟩ (fun H locs hP hD hS => ?_)
          have hF : rHigh f a p1 p2 = (r_20, f_20, a_20) := by
            unfold rHigh
            refine (if_neg c_1).trans ?_
            refine (if_neg c_2).trans ?_
            refine (if_neg c_3).trans ?_
            refine (if_pos c_4).trans ?_
            rewrite [hB_20]
            rfl
          rw [hF]
          exact KC.reti hx hb hr hlocks hK hP hD hS dX5_high_95 rfl
      · refine lv_aload_n hx hb dX5_high_57 rfl (lv_at hl 0 rfl) ?_
        obtain ⟨r_21, f_21, hB_21⟩ := k_ex2 (rNextTwo f a)
        have kc_21 := kX5_nextTwo l D cI o f a
        rw [hB_21] at kc_21; dsimp only at kc_21
        refine KC.calli (ci := 5) (rest := []) (wt := wR cI o f_21 a) (kc_21) (cwV 0 hts gX5_high_X5_nextTwo rfl rfl rfl (by decide +kernel) ⟨Nat.le_of_ble_eq_true rfl, Nat.le_of_ble_eq_true rfl⟩) ⟨hx, hb, hml, hown, hts⟩ hK hP hD hS hA rfl rfl rfl [0, 1, 2, 3, 4, 5, 6] [] [0, 1, 2, 3, 4, 5, 6] (by decide) rfl (wr := []) rfl (by decide) (by decide) (by decide) rfl rfl hl.1 rfl (Nat.le_of_ble_eq_true rfl) dX5_high_58 ⟨Nat.zero_le _, Nat.zero_le _⟩ (fun H locs hP hD hS => ?_)
        refine lv_istore_n (lv' := [(3, .int _), (0, .ref _), (1, .int _), (2, .int _)]) hx hb dX5_high_61 rfl hl (by decide) rfl (fun ls hl => ?_)
        refine lv_aload_n hx hb dX5_high_62 rfl (lv_at hl 1 rfl) ?_
        refine lv_aload_n hx hb dX5_high_63 rfl (lv_at hl 1 rfl) ?_
        refine lv_iload_n hx hb dX5_high_64 rfl (lv_at hl 2 rfl) ?_
        refine KC.calli (ci := 5) (rest := [.ref (o 20)]) (wt := wR cI o f_21 a) (kX5_holds l D cI o f_21 a p1) (cwV 1 hts gX5_high_X5_holds rfl rfl rfl (by decide +kernel) ⟨Nat.le_of_ble_eq_true rfl, Nat.le_of_ble_eq_true rfl⟩) ⟨hx, hb, hml, hown, hts⟩ hK hP hD hS hA rfl rfl rfl [0, 1, 2, 3, 4, 5, 6] [] [0, 1, 2, 3, 4, 5, 6] (by decide) rfl (wr := []) rfl (by decide) (by decide) (by decide) rfl rfl hl.1 rfl (Nat.le_of_ble_eq_true rfl) dX5_high_65 ⟨Nat.zero_le _, Nat.zero_le _⟩ (fun H locs hP hD hS => ?_)
        refine lv_if_eq (tgt := 75) hx hb dX5_high_68 (by decide) (fun c_22 => ?_) (fun c_22 => ?_)
        · refine lv_aload_n hx hb dX5_high_75 rfl (lv_at hl 1 rfl) ?_
          refine va_get (ci := 5) (v := .int (f_21 1)) (C := RX5) (T := TX5) (N := 24) hx hb hts hi5 hown hK hP 0 rfl rfl 5 (by decide) (hts (.fieldLink RX5 33 "InvaderBoardModel" "pc" "I") (List.mem_cons_of_mem _ (List.mem_append_left _ (List.mem_append_left _ (List.mem_of_getElem? (i := 0) rfl))))) (fun _ h9 => h9) rfl dX5_high_76 ?_
          refine pu_R_f1 (v := f_21 1) hx hb hts hi5 hown hK hP hD hS (hts (.fieldLink RX5 33 "InvaderBoardModel" "pc" "I") (List.mem_cons_of_mem _ (List.mem_append_left _ (List.mem_append_left _ (List.mem_of_getElem? (i := 0) rfl))))) dX5_high_79 (fun H locs hP hD hS => ?_)
          refine lv_bipush (v := 10) hx hb dX5_high_82 (by decide) ?_
          have hF : rHigh f a p1 p2 = ((10 : Int32), upd f_21 1 (f_21 1), a) := by
            unfold rHigh
            refine (if_neg c_1).trans ?_
            refine (if_neg c_2).trans ?_
            refine (if_pos c_3).trans ?_
            rewrite [hB_21]
            dsimp only
            refine (if_pos c_22).trans ?_
            rfl
          rw [hF]
          exact KC.reti hx hb hr hlocks hK hP hD hS dX5_high_84 rfl
        · refine lv_iload_n hx hb dX5_high_71 rfl (lv_at hl 0 rfl) ?_
          refine lv_goto (tgt := 79) hx hb dX5_high_72 (by decide) ?_
          refine pu_R_f1 (v := r_21) hx hb hts hi5 hown hK hP hD hS (hts (.fieldLink RX5 33 "InvaderBoardModel" "pc" "I") (List.mem_cons_of_mem _ (List.mem_append_left _ (List.mem_append_left _ (List.mem_of_getElem? (i := 0) rfl))))) dX5_high_79 (fun H locs hP hD hS => ?_)
          refine lv_bipush (v := 10) hx hb dX5_high_82 (by decide) ?_
          have hF : rHigh f a p1 p2 = ((10 : Int32), upd f_21 1 r_21, a) := by
            unfold rHigh
            refine (if_neg c_1).trans ?_
            refine (if_neg c_2).trans ?_
            refine (if_pos c_3).trans ?_
            rewrite [hB_21]
            dsimp only
            refine (if_neg c_22).trans ?_
            rfl
          rw [hF]
          exact KC.reti hx hb hr hlocks hK hP hD hS dX5_high_84 rfl
    · refine lv_iload_n hx hb dX5_high_30 rfl (lv_at hl 1 rfl) ?_
      refine lv_iconst (v := 1) hx hb dX5_high_31 (by decide) ?_
      refine lv_iand hx hb dX5_high_32 ?_
      refine lv_if_ne (tgt := 46) hx hb dX5_high_33 (by decide) (fun c_23 => ?_) (fun c_23 => ?_)
      · refine lv_aload_n hx hb dX5_high_46 rfl (lv_at hl 0 rfl) ?_
        refine lv_iload_n hx hb dX5_high_47 rfl (lv_at hl 1 rfl) ?_
        obtain ⟨r_24, f_24, hB_24⟩ := k_ex2 (rOdd f a p1)
        have kc_24 := kX5_odd l D cI o f a p1
        rw [hB_24] at kc_24; dsimp only at kc_24
        refine KC.calli (ci := 5) (rest := []) (wt := wR cI o f_24 a) (kc_24) (cwV 1 hts gX5_high_X5_odd rfl rfl rfl (by decide +kernel) ⟨Nat.le_of_ble_eq_true rfl, Nat.le_of_ble_eq_true rfl⟩) ⟨hx, hb, hml, hown, hts⟩ hK hP hD hS hA rfl rfl rfl [0, 1, 2, 3, 4, 5, 6] [] [0, 1, 2, 3, 4, 5, 6] (by decide) rfl (wr := []) rfl (by decide) (by decide) (by decide) rfl rfl hl.1 rfl (Nat.le_of_ble_eq_true rfl) dX5_high_48 ⟨Nat.zero_le _, Nat.zero_le _⟩ (fun H locs hP hD hS => ?_)
        have hF : rHigh f a p1 p2 = (r_24, f_24, a) := by
          unfold rHigh
          refine (if_neg c_1).trans ?_
          refine (if_pos c_2).trans ?_
          refine (if_neg c_23).trans ?_
          rewrite [hB_24]
          rfl
        rw [hF]
        exact KC.reti hx hb hr hlocks hK hP hD hS dX5_high_51 rfl
      · refine lv_aload_n hx hb dX5_high_36 rfl (lv_at hl 0 rfl) ?_
        refine lv_iload_n hx hb dX5_high_37 rfl (lv_at hl 1 rfl) ?_
        refine lv_iconst (v := 1) hx hb dX5_high_38 (by decide) ?_
        refine lv_ishr hx hb dX5_high_39 ?_
        obtain ⟨r_25, f_25, a_25, hB_25⟩ := k_ex3 (rPopped f a (p1 >>> ((1 : Int32) &&& 31)))
        have kc_25 := kX5_popped l D cI o f a (p1 >>> ((1 : Int32) &&& 31)) (xin_sh1 h1)
        rw [hB_25] at kc_25; dsimp only at kc_25
        refine KC.calli (ci := 5) (rest := []) (wt := wR cI o f_25 a_25) (kc_25) (cwV 1 hts gX5_high_X5_popped rfl rfl rfl (by decide +kernel) ⟨Nat.le_of_ble_eq_true rfl, Nat.le_of_ble_eq_true rfl⟩) ⟨hx, hb, hml, hown, hts⟩ hK hP hD hS hA rfl rfl rfl [0, 1, 2, 3, 4, 5, 6] [] [0, 1, 2, 3, 4, 5, 6] (by decide) rfl (wr := []) rfl (by decide) (by decide) (by decide) rfl rfl hl.1 rfl (Nat.le_of_ble_eq_true rfl) dX5_high_40 ⟨Nat.zero_le _, Nat.zero_le _⟩ (fun H locs hP hD hS => ?_)
        refine lv_goto (tgt := 51) hx hb dX5_high_43 (by decide) ?_
        have hF : rHigh f a p1 p2 = (r_25, f_25, a_25) := by
          unfold rHigh
          refine (if_neg c_1).trans ?_
          refine (if_pos c_2).trans ?_
          refine (if_pos c_23).trans ?_
          rewrite [hB_25]
          rfl
        rw [hF]
        exact KC.reti hx hb hr hlocks hK hP hD hS dX5_high_51 rfl
  · refine lv_aload_n hx hb dX5_high_4 rfl (lv_at hl 0 rfl) ?_
    refine lv_iload_n hx hb dX5_high_5 rfl (lv_at hl 1 rfl) ?_
    refine KC.calli (ci := 5) (rest := []) (wt := wR cI o f a) (kX5_holds l D cI o f a p1) (cwV 1 hts gX5_high_X5_holds rfl rfl rfl (by decide +kernel) ⟨Nat.le_of_ble_eq_true rfl, Nat.le_of_ble_eq_true rfl⟩) ⟨hx, hb, hml, hown, hts⟩ hK hP hD hS hA rfl rfl rfl [0, 1, 2, 3, 4, 5, 6] [] [0, 1, 2, 3, 4, 5, 6] (by decide) rfl (wr := []) rfl (by decide) (by decide) (by decide) rfl rfl hl.1 rfl (Nat.le_of_ble_eq_true rfl) dX5_high_6 ⟨Nat.zero_le _, Nat.zero_le _⟩ (fun H locs hP hD hS => ?_)
    refine lv_if_ne (tgt := 14) hx hb dX5_high_9 (by decide) (fun c_26 => ?_) (fun c_26 => ?_)
    · refine lv_aload_n hx hb dX5_high_14 rfl (lv_at hl 0 rfl) ?_
      refine lv_aload_n hx hb dX5_high_15 rfl (lv_at hl 0 rfl) ?_
      obtain ⟨r_27, f_27, hB_27⟩ := k_ex2 (rPop f a)
      have kc_27 := kX5_pop l D cI o f a
      rw [hB_27] at kc_27; dsimp only at kc_27
      refine KC.calli (ci := 5) (rest := [.ref (o 20)]) (wt := wR cI o f_27 a) (kc_27) (cwV 0 hts gX5_high_X5_pop rfl rfl rfl (by decide +kernel) ⟨Nat.le_of_ble_eq_true rfl, Nat.le_of_ble_eq_true rfl⟩) ⟨hx, hb, hml, hown, hts⟩ hK hP hD hS hA rfl rfl rfl [0, 1, 2, 3, 4, 5, 6] [] [0, 1, 2, 3, 4, 5, 6] (by decide) rfl (wr := []) rfl (by decide) (by decide) (by decide) rfl rfl hl.1 rfl (Nat.le_of_ble_eq_true rfl) dX5_high_16 ⟨Nat.zero_le _, Nat.zero_le _⟩ (fun H locs hP hD hS => ?_)
      refine pu_R_f1 (v := r_27) hx hb hts hi5 hown hK hP hD hS (hts (.fieldLink RX5 33 "InvaderBoardModel" "pc" "I") (List.mem_cons_of_mem _ (List.mem_append_left _ (List.mem_append_left _ (List.mem_of_getElem? (i := 0) rfl))))) dX5_high_19 (fun H locs hP hD hS => ?_)
      refine lv_bipush (v := 11) hx hb dX5_high_22 (by decide) ?_
      have hF : rHigh f a p1 p2 = ((11 : Int32), upd f_27 1 r_27, a) := by
        unfold rHigh
        refine (if_pos c_1).trans ?_
        refine (if_neg c_26).trans ?_
        rewrite [hB_27]
        rfl
      rw [hF]
      exact KC.reti hx hb hr hlocks hK hP hD hS dX5_high_24 rfl
    · refine lv_iconst (v := 5) hx hb dX5_high_12 (by decide) ?_
      have hF : rHigh f a p1 p2 = ((5 : Int32), f, a) := by
        unfold rHigh
        refine (if_pos c_1).trans ?_
        refine (if_pos c_26).trans ?_
        rfl
      rw [hF]
      exact KC.reti hx hb hr hlocks hK hP hD hS dX5_high_13 rfl
