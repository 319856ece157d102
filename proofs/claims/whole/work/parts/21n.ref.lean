def rSingle (f : Nat → Int32) (a : Nat → Nat → Int32) (p1 : Int32) : Int32 × (Nat → Int32) × (Nat → Nat → Int32) :=
  if (2 : Int32) ≤ p1 then if p1 = (2 : Int32) then (match rNext f a with
      | (r_13, f_13) => (match rOut f_13 a r_13 ((a 2) (7 : Int32).toNatClampNeg) with
        | (f_14, a_14) => ((10 : Int32), f_14, a_14)))
    else if p1 = (3 : Int32) then (match rNext f a with
        | (r_12, f_12) => ((10 : Int32), f_12, ua a 2 (upd (a 2) (7 : Int32).toNatClampNeg (rIn f_12 a r_12))))
      else if p1 = (4 : Int32) then (match rSetPair f (ua (ua a 1 (rWrite f a (f 0) ((a 2) (5 : Int32).toNatClampNeg))) 1 (rWrite f (ua a 1 (rWrite f a (f 0) ((a 2) (5 : Int32).toNatClampNeg))) (((f 0) + (1 : Int32)) &&& (65535 : Int32)) ((a 2) (4 : Int32).toNatClampNeg))) (2 : Int32) ((rRead f a (f 0)) ||| ((rRead f a (((f 0) + (1 : Int32)) &&& (65535 : Int32))) <<< ((8 : Int32) &&& 31))) with
          | (f_11, a_11) => ((18 : Int32), f_11, a_11))
        else if p1 = (5 : Int32) then (match rSetPair f a (2 : Int32) (rPair f a (1 : Int32)) with
            | (f_9, a_9) => (match rSetPair f_9 a_9 (1 : Int32) (rHl f a) with
              | (f_10, a_10) => ((4 : Int32), f_10, a_10)))
          else if p1 = (6 : Int32) then ((4 : Int32), upd (upd f 2 (0 : Int32)) 17 (0 : Int32), a)
            else if f 2 = 0 then if f 17 = 0 then ((4 : Int32), upd f 3 (1 : Int32), a)
                else ((4 : Int32), f, a)
              else ((4 : Int32), f, a)
  else (match rNextTwo f a with
    | (r_15, f_15) => ((10 : Int32), upd f_15 1 r_15, a))
set_option maxHeartbeats 4000000 in
set_option maxRecDepth 100000 in
theorem kX5_single (l : Launch) (D : va_G) (cI : ClassId) (o : Nat → Nat) (f : Nat → Int32) (a : Nat → Nat → Int32) (p1 : Int32) (hR : ∀ q : Int32, ¬ rRead f a q < 0) : KC l yX5_single wsX5_single 3 [.ref (o 20), .int p1] D cI (wR cI o f a) (wR cI o ((rSingle f a p1).2.1) ((rSingle f a p1).2.2)) (some (.int (rSingle f a p1).1)) := by
  refine KC.of (cc := cX5_single) (maxL := 3) (by decide) rfl (Nat.le_of_ble_eq_true rfl) ?_
  intro p e s m below meth c A hx hb hr hts hown hlocks hml hK hP hD hS hA ls hl
  have hl : lv_has ls 3 [(0, .ref (o 20)), (1, .int p1)] := hl
  have hown : s.vm.findClass RX5 = some m.cls := hown
  have hi5 : ∀ w ∈ u_ws RX5 TX5 24, w ∈ wsX5_single := fun w h => List.mem_cons_of_mem _ (List.mem_append_right _ h)
  refine lv_iload_n hx hb dX5_single_0 rfl (lv_at hl 1 rfl) ?_
  refine lv_iconst (v := 2) hx hb dX5_single_1 (by decide) ?_
  refine lv_icmp_ge (tgt := 16) hx hb dX5_single_2 (by decide) (fun c_1 => ?_) (fun c_1 => ?_)
  · refine lv_iload_n hx hb dX5_single_16 rfl (lv_at hl 1 rfl) ?_
    refine lv_iconst (v := 2) hx hb dX5_single_17 (by decide) ?_
    refine lv_icmp_ne (tgt := 39) hx hb dX5_single_18 (by decide) (fun c_2 => ?_) (fun c_2 => ?_)
    · refine lv_iload_n hx hb dX5_single_39 rfl (lv_at hl 1 rfl) ?_
      refine lv_iconst (v := 3) hx hb dX5_single_40 (by decide) ?_
      refine lv_icmp_ne (tgt := 62) hx hb dX5_single_41 (by decide) (fun c_3 => ?_) (fun c_3 => ?_)
      · refine lv_iload_n hx hb dX5_single_62 rfl (lv_at hl 1 rfl) ?_
        refine lv_iconst (v := 4) hx hb dX5_single_63 (by decide) ?_
        refine lv_icmp_ne (tgt := 135) hx hb dX5_single_64 (by decide) (fun c_4 => ?_) (fun c_4 => ?_)
        · refine lv_iload_n hx hb dX5_single_135 rfl (lv_at hl 1 rfl) ?_
          refine lv_iconst (v := 5) hx hb dX5_single_136 (by decide) ?_
          refine lv_icmp_ne (tgt := 163) hx hb dX5_single_137 (by decide) (fun c_5 => ?_) (fun c_5 => ?_)
          · refine lv_iload_n hx hb dX5_single_163 rfl (lv_at hl 1 rfl) ?_
            refine lv_bipush (v := 6) hx hb dX5_single_164 (by decide) ?_
            refine lv_icmp_ne (tgt := 182) hx hb dX5_single_166 (by decide) (fun c_6 => ?_) (fun c_6 => ?_)
            · refine lv_aload_n hx hb dX5_single_182 rfl (lv_at hl 0 rfl) ?_
              refine va_get (ci := 5) (v := .int (f 2)) (C := RX5) (T := TX5) (N := 24) hx hb hts hi5 hown hK hP 0 rfl rfl 11 (by decide) (hts (.fieldLink RX5 148 "InvaderBoardModel" "enabled" "Z") (List.mem_cons_of_mem _ (List.mem_append_left _ (List.mem_append_left _ (List.mem_of_getElem? (i := 4) rfl))))) (fun _ h9 => h9) rfl dX5_single_183 ?_
              refine lv_if_ne (tgt := 201) hx hb dX5_single_186 (by decide) (fun c_7 => ?_) (fun c_7 => ?_)
              · refine lv_iconst (v := 4) hx hb dX5_single_201 (by decide) ?_
                have hF : rSingle f a p1 = ((4 : Int32), f, a) := by
                  unfold rSingle
                  refine (if_pos c_1).trans ?_
                  refine (if_neg c_2).trans ?_
                  refine (if_neg c_3).trans ?_
                  refine (if_neg c_4).trans ?_
                  refine (if_neg c_5).trans ?_
                  refine (if_neg c_6).trans ?_
                  refine (if_neg c_7).trans ?_
                  rfl
                rw [hF]
                exact KC.reti hx hb hr hlocks hK hP hD hS dX5_single_202 rfl
              · refine lv_aload_n hx hb dX5_single_189 rfl (lv_at hl 0 rfl) ?_
                refine va_get (ci := 5) (v := .int (f 17)) (C := RX5) (T := TX5) (N := 24) hx hb hts hi5 hown hK hP 0 rfl rfl 12 (by decide) (hts (.fieldLink RX5 151 "InvaderBoardModel" "due" "Z") (List.mem_cons_of_mem _ (List.mem_append_left _ (List.mem_append_left _ (List.mem_of_getElem? (i := 5) rfl))))) (fun _ h9 => h9) rfl dX5_single_190 ?_
                refine lv_if_ne (tgt := 201) hx hb dX5_single_193 (by decide) (fun c_8 => ?_) (fun c_8 => ?_)
                · refine lv_iconst (v := 4) hx hb dX5_single_201 (by decide) ?_
                  have hF : rSingle f a p1 = ((4 : Int32), f, a) := by
                    unfold rSingle
                    refine (if_pos c_1).trans ?_
                    refine (if_neg c_2).trans ?_
                    refine (if_neg c_3).trans ?_
                    refine (if_neg c_4).trans ?_
                    refine (if_neg c_5).trans ?_
                    refine (if_neg c_6).trans ?_
                    refine (if_pos c_7).trans ?_
                    refine (if_neg c_8).trans ?_
                    rfl
                  rw [hF]
                  exact KC.reti hx hb hr hlocks hK hP hD hS dX5_single_202 rfl
                · refine lv_aload_n hx hb dX5_single_196 rfl (lv_at hl 0 rfl) ?_
                  refine lv_iconst (v := 1) hx hb dX5_single_197 (by decide) ?_
                  refine pu_R_f3 (v := (1 : Int32)) hx hb hts hi5 hown hK hP hD hS (hts (.fieldLink RX5 154 "InvaderBoardModel" "soon" "Z") (List.mem_cons_of_mem _ (List.mem_append_left _ (List.mem_append_left _ (List.mem_of_getElem? (i := 6) rfl))))) (by decide +kernel) (by decide +kernel) dX5_single_198 (fun H locs hP hD hS => ?_)
                  refine lv_iconst (v := 4) hx hb dX5_single_201 (by decide) ?_
                  have hF : rSingle f a p1 = ((4 : Int32), upd f 3 (1 : Int32), a) := by
                    unfold rSingle
                    refine (if_pos c_1).trans ?_
                    refine (if_neg c_2).trans ?_
                    refine (if_neg c_3).trans ?_
                    refine (if_neg c_4).trans ?_
                    refine (if_neg c_5).trans ?_
                    refine (if_neg c_6).trans ?_
                    refine (if_pos c_7).trans ?_
                    refine (if_pos c_8).trans ?_
                    rfl
                  rw [hF]
                  exact KC.reti hx hb hr hlocks hK hP hD hS dX5_single_202 rfl
            · refine lv_aload_n hx hb dX5_single_169 rfl (lv_at hl 0 rfl) ?_
              refine lv_iconst (v := 0) hx hb dX5_single_170 (by decide) ?_
              refine pu_R_f2 (v := (0 : Int32)) hx hb hts hi5 hown hK hP hD hS (hts (.fieldLink RX5 148 "InvaderBoardModel" "enabled" "Z") (List.mem_cons_of_mem _ (List.mem_append_left _ (List.mem_append_left _ (List.mem_of_getElem? (i := 4) rfl))))) (by decide +kernel) (by decide +kernel) dX5_single_171 (fun H locs hP hD hS => ?_)
              refine lv_aload_n hx hb dX5_single_174 rfl (lv_at hl 0 rfl) ?_
              refine lv_iconst (v := 0) hx hb dX5_single_175 (by decide) ?_
              refine pu_R_f17 (v := (0 : Int32)) hx hb hts hi5 hown hK hP hD hS (hts (.fieldLink RX5 151 "InvaderBoardModel" "due" "Z") (List.mem_cons_of_mem _ (List.mem_append_left _ (List.mem_append_left _ (List.mem_of_getElem? (i := 5) rfl))))) (by decide +kernel) (by decide +kernel) dX5_single_176 (fun H locs hP hD hS => ?_)
              refine lv_goto (tgt := 201) hx hb dX5_single_179 (by decide) ?_
              refine lv_iconst (v := 4) hx hb dX5_single_201 (by decide) ?_
              have hF : rSingle f a p1 = ((4 : Int32), upd (upd f 2 (0 : Int32)) 17 (0 : Int32), a) := by
                unfold rSingle
                refine (if_pos c_1).trans ?_
                refine (if_neg c_2).trans ?_
                refine (if_neg c_3).trans ?_
                refine (if_neg c_4).trans ?_
                refine (if_neg c_5).trans ?_
                refine (if_pos c_6).trans ?_
                rfl
              rw [hF]
              exact KC.reti hx hb hr hlocks hK hP hD hS dX5_single_202 rfl
          · refine lv_aload_n hx hb dX5_single_140 rfl (lv_at hl 0 rfl) ?_
            refine KC.calli (ci := 5) (rest := []) (wt := wR cI o f a) (kX5_hl l D cI o f a) (cwV 0 hts gX5_single_X5_hl rfl rfl rfl (by decide +kernel) ⟨Nat.le_of_ble_eq_true rfl, Nat.le_of_ble_eq_true rfl⟩) ⟨hx, hb, hml, hown, hts⟩ hK hP hD hS hA rfl rfl rfl [0, 1, 2, 3, 4, 5, 6] [] [0, 1, 2, 3, 4, 5, 6] (by decide) rfl (wr := []) rfl (by decide) (by decide) (by decide) rfl rfl hl.1 rfl (Nat.le_of_ble_eq_true rfl) dX5_single_141 ⟨Nat.zero_le _, Nat.zero_le _⟩ (fun H locs hP hD hS => ?_)
            refine lv_istore_n (lv' := [(2, .int _), (0, .ref _), (1, .int _)]) hx hb dX5_single_144 rfl hl (by decide) rfl (fun ls hl => ?_)
            refine lv_aload_n hx hb dX5_single_145 rfl (lv_at hl 1 rfl) ?_
            refine lv_iconst (v := 2) hx hb dX5_single_146 (by decide) ?_
            refine lv_aload_n hx hb dX5_single_147 rfl (lv_at hl 1 rfl) ?_
            refine lv_iconst (v := 1) hx hb dX5_single_148 (by decide) ?_
            refine KC.calli (ci := 5) (rest := [.int (2 : Int32), .ref (o 20)]) (wt := wR cI o f a) (kX5_pair l D cI o f a (1 : Int32) (by unfold vp_in; decide)) (cwV 1 hts gX5_single_X5_pair rfl rfl rfl (by decide +kernel) ⟨Nat.le_of_ble_eq_true rfl, Nat.le_of_ble_eq_true rfl⟩) ⟨hx, hb, hml, hown, hts⟩ hK hP hD hS hA rfl rfl rfl [0, 1, 2, 3, 4, 5, 6] [] [0, 1, 2, 3, 4, 5, 6] (by decide) rfl (wr := []) rfl (by decide) (by decide) (by decide) rfl rfl hl.1 rfl (Nat.le_of_ble_eq_true rfl) dX5_single_149 ⟨Nat.zero_le _, Nat.zero_le _⟩ (fun H locs hP hD hS => ?_)
            obtain ⟨f_9, a_9, hB_9⟩ := k_ex2 (rSetPair f a (2 : Int32) (rPair f a (1 : Int32)))
            have kc_9 := kX5_setPair l D cI o f a (2 : Int32) (rPair f a (1 : Int32)) (by unfold vp_in; decide)
            rw [hB_9] at kc_9; dsimp only at kc_9
            refine KC.callv (ci := 5) (rest := []) (wt := wR cI o f_9 a_9) (kc_9) (cwV 2 hts gX5_single_X5_setPair rfl rfl rfl (by decide +kernel) ⟨Nat.le_of_ble_eq_true rfl, Nat.le_of_ble_eq_true rfl⟩) ⟨hx, hb, hml, hown, hts⟩ hK hP hD hS hA rfl rfl rfl [0, 1, 2, 3, 4, 5, 6] [] [0, 1, 2, 3, 4, 5, 6] (by decide) rfl (wr := []) rfl (by decide) (by decide) (by decide) rfl rfl hl.1 rfl (Nat.le_of_ble_eq_true rfl) dX5_single_152 ⟨Nat.zero_le _, Nat.zero_le _⟩ (fun H locs hP hD hS => ?_)
            refine lv_aload_n hx hb dX5_single_155 rfl (lv_at hl 1 rfl) ?_
            refine lv_iconst (v := 1) hx hb dX5_single_156 (by decide) ?_
            refine lv_iload_n hx hb dX5_single_157 rfl (lv_at hl 0 rfl) ?_
            obtain ⟨f_10, a_10, hB_10⟩ := k_ex2 (rSetPair f_9 a_9 (1 : Int32) (rHl f a))
            have kc_10 := kX5_setPair l D cI o f_9 a_9 (1 : Int32) (rHl f a) (by unfold vp_in; decide)
            rw [hB_10] at kc_10; dsimp only at kc_10
            refine KC.callv (ci := 5) (rest := []) (wt := wR cI o f_10 a_10) (kc_10) (cwV 2 hts gX5_single_X5_setPair rfl rfl rfl (by decide +kernel) ⟨Nat.le_of_ble_eq_true rfl, Nat.le_of_ble_eq_true rfl⟩) ⟨hx, hb, hml, hown, hts⟩ hK hP hD hS hA rfl rfl rfl [0, 1, 2, 3, 4, 5, 6] [] [0, 1, 2, 3, 4, 5, 6] (by decide) rfl (wr := []) rfl (by decide) (by decide) (by decide) rfl rfl hl.1 rfl (Nat.le_of_ble_eq_true rfl) dX5_single_158 ⟨Nat.zero_le _, Nat.zero_le _⟩ (fun H locs hP hD hS => ?_)
            refine lv_iconst (v := 4) hx hb dX5_single_161 (by decide) ?_
            have hF : rSingle f a p1 = ((4 : Int32), f_10, a_10) := by
              unfold rSingle
              refine (if_pos c_1).trans ?_
              refine (if_neg c_2).trans ?_
              refine (if_neg c_3).trans ?_
              refine (if_neg c_4).trans ?_
              refine (if_pos c_5).trans ?_
              rewrite [hB_9]
              dsimp only
              rewrite [hB_10]
              rfl
            rw [hF]
            exact KC.reti hx hb hr hlocks hK hP hD hS dX5_single_162 rfl
        · refine lv_aload_n hx hb dX5_single_67 rfl (lv_at hl 0 rfl) ?_
          refine lv_aload_n hx hb dX5_single_68 rfl (lv_at hl 0 rfl) ?_
          refine va_get (ci := 5) (v := .int (f 0)) (C := RX5) (T := TX5) (N := 24) hx hb hts hi5 hown hK hP 0 rfl rfl 4 (by decide) (hts (.fieldLink RX5 44 "InvaderBoardModel" "sp" "I") (List.mem_cons_of_mem _ (List.mem_append_left _ (List.mem_append_left _ (List.mem_of_getElem? (i := 2) rfl))))) (fun _ h9 => h9) rfl dX5_single_69 ?_
          refine KC.calli (ci := 5) (rest := []) (wt := wR cI o f a) (kX5_read l D cI o f a (f 0)) (cwV 1 hts gX5_single_X5_read rfl rfl rfl (by decide +kernel) ⟨Nat.le_of_ble_eq_true rfl, Nat.le_of_ble_eq_true rfl⟩) ⟨hx, hb, hml, hown, hts⟩ hK hP hD hS hA rfl rfl rfl [0, 1, 2, 3, 4, 5, 6] [] [0, 1, 2, 3, 4, 5, 6] (by decide) rfl (wr := []) rfl (by decide) (by decide) (by decide) rfl rfl hl.1 rfl (Nat.le_of_ble_eq_true rfl) dX5_single_72 ⟨Nat.zero_le _, Nat.zero_le _⟩ (fun H locs hP hD hS => ?_)
          refine lv_aload_n hx hb dX5_single_75 rfl (lv_at hl 0 rfl) ?_
          refine lv_aload_n hx hb dX5_single_76 rfl (lv_at hl 0 rfl) ?_
          refine va_get (ci := 5) (v := .int (f 0)) (C := RX5) (T := TX5) (N := 24) hx hb hts hi5 hown hK hP 0 rfl rfl 4 (by decide) (hts (.fieldLink RX5 44 "InvaderBoardModel" "sp" "I") (List.mem_cons_of_mem _ (List.mem_append_left _ (List.mem_append_left _ (List.mem_of_getElem? (i := 2) rfl))))) (fun _ h9 => h9) rfl dX5_single_77 ?_
          refine lv_iconst (v := 1) hx hb dX5_single_80 (by decide) ?_
          refine lv_iadd hx hb dX5_single_81 ?_
          refine lv_ldc (v := 65535) hx hb hown (hts (.constant RX5 32 65535) (List.mem_cons_of_mem _ (List.mem_append_left _ (List.mem_append_left _ (List.mem_of_getElem? (i := 3) rfl))))) dX5_single_82 ?_
          refine lv_iand hx hb dX5_single_84 ?_
          refine KC.calli (ci := 5) (rest := [.int (rRead f a (f 0))]) (wt := wR cI o f a) (kX5_read l D cI o f a (((f 0) + (1 : Int32)) &&& (65535 : Int32))) (cwV 1 hts gX5_single_X5_read rfl rfl rfl (by decide +kernel) ⟨Nat.le_of_ble_eq_true rfl, Nat.le_of_ble_eq_true rfl⟩) ⟨hx, hb, hml, hown, hts⟩ hK hP hD hS hA rfl rfl rfl [0, 1, 2, 3, 4, 5, 6] [] [0, 1, 2, 3, 4, 5, 6] (by decide) rfl (wr := []) rfl (by decide) (by decide) (by decide) rfl rfl hl.1 rfl (Nat.le_of_ble_eq_true rfl) dX5_single_85 ⟨Nat.zero_le _, Nat.zero_le _⟩ (fun H locs hP hD hS => ?_)
          refine lv_bipush (v := 8) hx hb dX5_single_88 (by decide) ?_
          refine lv_ishl hx hb dX5_single_90 ?_
          refine lv_ior hx hb dX5_single_91 ?_
          refine lv_istore_n (lv' := [(2, .int _), (0, .ref _), (1, .int _)]) hx hb dX5_single_92 rfl hl (by decide) rfl (fun ls hl => ?_)
          refine lv_aload_n hx hb dX5_single_93 rfl (lv_at hl 1 rfl) ?_
          refine lv_aload_n hx hb dX5_single_94 rfl (lv_at hl 1 rfl) ?_
          refine va_get (ci := 5) (v := .int (f 0)) (C := RX5) (T := TX5) (N := 24) hx hb hts hi5 hown hK hP 0 rfl rfl 4 (by decide) (hts (.fieldLink RX5 44 "InvaderBoardModel" "sp" "I") (List.mem_cons_of_mem _ (List.mem_append_left _ (List.mem_append_left _ (List.mem_of_getElem? (i := 2) rfl))))) (fun _ h9 => h9) rfl dX5_single_95 ?_
          refine lv_aload_n hx hb dX5_single_98 rfl (lv_at hl 1 rfl) ?_
          refine va_get (ci := 5) (v := .ref (o 23)) (C := RX5) (T := TX5) (N := 24) hx hb hts hi5 hown hK hP 0 rfl rfl 3 (by decide) (hts (.fieldLink RX5 16 "InvaderBoardModel" "reg" "[I") (List.mem_cons_of_mem _ (List.mem_append_left _ (List.mem_append_left _ (List.mem_of_getElem? (i := 1) rfl))))) (fun _ h9 => h9) rfl dX5_single_99 ?_
          refine lv_iconst (v := 5) hx hb dX5_single_102 (by decide) ?_
          refine va_iald (f := a 2) hx hb hK hP 3 0 rfl rfl (by unfold vp_in; decide) dX5_single_103 ?_
          refine KC.callv (ci := 5) (rest := []) (wt := wR cI o f (ua a 1 (rWrite f a (f 0) ((a 2) (5 : Int32).toNatClampNeg)))) (kX5_write l D cI o f a (f 0) ((a 2) (5 : Int32).toNatClampNeg)) (cwV 2 hts gX5_single_X5_write rfl rfl rfl (by decide +kernel) ⟨Nat.le_of_ble_eq_true rfl, Nat.le_of_ble_eq_true rfl⟩) ⟨hx, hb, hml, hown, hts⟩ hK hP hD hS hA rfl rfl rfl [0, 1, 2, 3, 4, 5, 6] [] [0, 1, 2, 3, 4, 5, 6] (by decide) rfl (wr := []) rfl (by decide) (by decide) (by decide) rfl rfl hl.1 rfl (Nat.le_of_ble_eq_true rfl) dX5_single_104 ⟨Nat.zero_le _, Nat.zero_le _⟩ (fun H locs hP hD hS => ?_)
          refine lv_aload_n hx hb dX5_single_107 rfl (lv_at hl 1 rfl) ?_
          refine lv_aload_n hx hb dX5_single_108 rfl (lv_at hl 1 rfl) ?_
          refine va_get (ci := 5) (v := .int (f 0)) (C := RX5) (T := TX5) (N := 24) hx hb hts hi5 hown hK hP 0 rfl rfl 4 (by decide) (hts (.fieldLink RX5 44 "InvaderBoardModel" "sp" "I") (List.mem_cons_of_mem _ (List.mem_append_left _ (List.mem_append_left _ (List.mem_of_getElem? (i := 2) rfl))))) (fun _ h9 => h9) rfl dX5_single_109 ?_
          refine lv_iconst (v := 1) hx hb dX5_single_112 (by decide) ?_
          refine lv_iadd hx hb dX5_single_113 ?_
          refine lv_ldc (v := 65535) hx hb hown (hts (.constant RX5 32 65535) (List.mem_cons_of_mem _ (List.mem_append_left _ (List.mem_append_left _ (List.mem_of_getElem? (i := 3) rfl))))) dX5_single_114 ?_
          refine lv_iand hx hb dX5_single_116 ?_
          refine lv_aload_n hx hb dX5_single_117 rfl (lv_at hl 1 rfl) ?_
          refine va_get (ci := 5) (v := .ref (o 23)) (C := RX5) (T := TX5) (N := 24) hx hb hts hi5 hown hK hP 0 rfl rfl 3 (by decide) (hts (.fieldLink RX5 16 "InvaderBoardModel" "reg" "[I") (List.mem_cons_of_mem _ (List.mem_append_left _ (List.mem_append_left _ (List.mem_of_getElem? (i := 1) rfl))))) (fun _ h9 => h9) rfl dX5_single_118 ?_
          refine lv_iconst (v := 4) hx hb dX5_single_121 (by decide) ?_
          refine va_iald (f := a 2) hx hb hK hP 3 0 rfl rfl (by unfold vp_in; decide) dX5_single_122 ?_
          refine KC.callv (ci := 5) (rest := []) (wt := wR cI o f (ua (ua a 1 (rWrite f a (f 0) ((a 2) (5 : Int32).toNatClampNeg))) 1 (rWrite f (ua a 1 (rWrite f a (f 0) ((a 2) (5 : Int32).toNatClampNeg))) (((f 0) + (1 : Int32)) &&& (65535 : Int32)) ((a 2) (4 : Int32).toNatClampNeg)))) (kX5_write l D cI o f (ua a 1 (rWrite f a (f 0) ((a 2) (5 : Int32).toNatClampNeg))) (((f 0) + (1 : Int32)) &&& (65535 : Int32)) ((a 2) (4 : Int32).toNatClampNeg)) (cwV 2 hts gX5_single_X5_write rfl rfl rfl (by decide +kernel) ⟨Nat.le_of_ble_eq_true rfl, Nat.le_of_ble_eq_true rfl⟩) ⟨hx, hb, hml, hown, hts⟩ hK hP hD hS hA rfl rfl rfl [0, 1, 2, 3, 4, 5, 6] [] [0, 1, 2, 3, 4, 5, 6] (by decide) rfl (wr := []) rfl (by decide) (by decide) (by decide) rfl rfl hl.1 rfl (Nat.le_of_ble_eq_true rfl) dX5_single_123 ⟨Nat.zero_le _, Nat.zero_le _⟩ (fun H locs hP hD hS => ?_)
          refine lv_aload_n hx hb dX5_single_126 rfl (lv_at hl 1 rfl) ?_
          refine lv_iconst (v := 2) hx hb dX5_single_127 (by decide) ?_
          refine lv_iload_n hx hb dX5_single_128 rfl (lv_at hl 0 rfl) ?_
          obtain ⟨f_11, a_11, hB_11⟩ := k_ex2 (rSetPair f (ua (ua a 1 (rWrite f a (f 0) ((a 2) (5 : Int32).toNatClampNeg))) 1 (rWrite f (ua a 1 (rWrite f a (f 0) ((a 2) (5 : Int32).toNatClampNeg))) (((f 0) + (1 : Int32)) &&& (65535 : Int32)) ((a 2) (4 : Int32).toNatClampNeg))) (2 : Int32) ((rRead f a (f 0)) ||| ((rRead f a (((f 0) + (1 : Int32)) &&& (65535 : Int32))) <<< ((8 : Int32) &&& 31))))
          have kc_11 := kX5_setPair l D cI o f (ua (ua a 1 (rWrite f a (f 0) ((a 2) (5 : Int32).toNatClampNeg))) 1 (rWrite f (ua a 1 (rWrite f a (f 0) ((a 2) (5 : Int32).toNatClampNeg))) (((f 0) + (1 : Int32)) &&& (65535 : Int32)) ((a 2) (4 : Int32).toNatClampNeg))) (2 : Int32) ((rRead f a (f 0)) ||| ((rRead f a (((f 0) + (1 : Int32)) &&& (65535 : Int32))) <<< ((8 : Int32) &&& 31))) (by unfold vp_in; decide)
          rw [hB_11] at kc_11; dsimp only at kc_11
          refine KC.callv (ci := 5) (rest := []) (wt := wR cI o f_11 a_11) (kc_11) (cwV 2 hts gX5_single_X5_setPair rfl rfl rfl (by decide +kernel) ⟨Nat.le_of_ble_eq_true rfl, Nat.le_of_ble_eq_true rfl⟩) ⟨hx, hb, hml, hown, hts⟩ hK hP hD hS hA rfl rfl rfl [0, 1, 2, 3, 4, 5, 6] [] [0, 1, 2, 3, 4, 5, 6] (by decide) rfl (wr := []) rfl (by decide) (by decide) (by decide) rfl rfl hl.1 rfl (Nat.le_of_ble_eq_true rfl) dX5_single_129 ⟨Nat.zero_le _, Nat.zero_le _⟩ (fun H locs hP hD hS => ?_)
          refine lv_bipush (v := 18) hx hb dX5_single_132 (by decide) ?_
          have hF : rSingle f a p1 = ((18 : Int32), f_11, a_11) := by
            unfold rSingle
            refine (if_pos c_1).trans ?_
            refine (if_neg c_2).trans ?_
            refine (if_neg c_3).trans ?_
            refine (if_pos c_4).trans ?_
            rewrite [hB_11]
            rfl
          rw [hF]
          exact KC.reti hx hb hr hlocks hK hP hD hS dX5_single_134 rfl
      · refine lv_aload_n hx hb dX5_single_44 rfl (lv_at hl 0 rfl) ?_
        refine va_get (ci := 5) (v := .ref (o 23)) (C := RX5) (T := TX5) (N := 24) hx hb hts hi5 hown hK hP 0 rfl rfl 3 (by decide) (hts (.fieldLink RX5 16 "InvaderBoardModel" "reg" "[I") (List.mem_cons_of_mem _ (List.mem_append_left _ (List.mem_append_left _ (List.mem_of_getElem? (i := 1) rfl))))) (fun _ h9 => h9) rfl dX5_single_45 ?_
        refine lv_bipush (v := 7) hx hb dX5_single_48 (by decide) ?_
        refine lv_aload_n hx hb dX5_single_50 rfl (lv_at hl 0 rfl) ?_
        refine lv_aload_n hx hb dX5_single_51 rfl (lv_at hl 0 rfl) ?_
        obtain ⟨r_12, f_12, hB_12⟩ := k_ex2 (rNext f a)
        have kc_12 := kX5_next l D cI o f a
        rw [hB_12] at kc_12; dsimp only at kc_12
        refine KC.calli (ci := 5) (rest := [.ref (o 20), .int (7 : Int32), .ref (o 23)]) (wt := wR cI o f_12 a) (kc_12) (cwV 0 hts gX5_single_X5_next rfl rfl rfl (by decide +kernel) ⟨Nat.le_of_ble_eq_true rfl, Nat.le_of_ble_eq_true rfl⟩) ⟨hx, hb, hml, hown, hts⟩ hK hP hD hS hA rfl rfl rfl [0, 1, 2, 3, 4, 5, 6] [] [0, 1, 2, 3, 4, 5, 6] (by decide) rfl (wr := []) rfl (by decide) (by decide) (by decide) rfl rfl hl.1 rfl (Nat.le_of_ble_eq_true rfl) dX5_single_52 ⟨Nat.zero_le _, Nat.zero_le _⟩ (fun H locs hP hD hS => ?_)
        refine KC.calli (ci := 5) (rest := [.int (7 : Int32), .ref (o 23)]) (wt := wR cI o f_12 a) (kX5_in l D cI o f_12 a r_12 (rNext_nn hR hB_12)) (cwV 1 hts gX5_single_X5_in rfl rfl rfl (by decide +kernel) ⟨Nat.le_of_ble_eq_true rfl, Nat.le_of_ble_eq_true rfl⟩) ⟨hx, hb, hml, hown, hts⟩ hK hP hD hS hA rfl rfl rfl [0, 1, 2, 3, 4, 5, 6] [] [0, 1, 2, 3, 4, 5, 6] (by decide) rfl (wr := []) rfl (by decide) (by decide) (by decide) rfl rfl hl.1 rfl (Nat.le_of_ble_eq_true rfl) dX5_single_55 ⟨Nat.zero_le _, Nat.zero_le _⟩ (fun H locs hP hD hS => ?_)
        refine pu_R_a2 hx hb hK hP hD hS (by unfold vp_in; decide) dX5_single_58 (fun H locs hP hD hS => ?_)
        refine lv_bipush (v := 10) hx hb dX5_single_59 (by decide) ?_
        have hF : rSingle f a p1 = ((10 : Int32), f_12, ua a 2 (upd (a 2) (7 : Int32).toNatClampNeg (rIn f_12 a r_12))) := by
          unfold rSingle
          refine (if_pos c_1).trans ?_
          refine (if_neg c_2).trans ?_
          refine (if_pos c_3).trans ?_
          rewrite [hB_12]
          rfl
        rw [hF]
        exact KC.reti hx hb hr hlocks hK hP hD hS dX5_single_61 rfl
    · refine lv_aload_n hx hb dX5_single_21 rfl (lv_at hl 0 rfl) ?_
      refine lv_aload_n hx hb dX5_single_22 rfl (lv_at hl 0 rfl) ?_
      obtain ⟨r_13, f_13, hB_13⟩ := k_ex2 (rNext f a)
      have kc_13 := kX5_next l D cI o f a
      rw [hB_13] at kc_13; dsimp only at kc_13
      refine KC.calli (ci := 5) (rest := [.ref (o 20)]) (wt := wR cI o f_13 a) (kc_13) (cwV 0 hts gX5_single_X5_next rfl rfl rfl (by decide +kernel) ⟨Nat.le_of_ble_eq_true rfl, Nat.le_of_ble_eq_true rfl⟩) ⟨hx, hb, hml, hown, hts⟩ hK hP hD hS hA rfl rfl rfl [0, 1, 2, 3, 4, 5, 6] [] [0, 1, 2, 3, 4, 5, 6] (by decide) rfl (wr := []) rfl (by decide) (by decide) (by decide) rfl rfl hl.1 rfl (Nat.le_of_ble_eq_true rfl) dX5_single_23 ⟨Nat.zero_le _, Nat.zero_le _⟩ (fun H locs hP hD hS => ?_)
      refine lv_aload_n hx hb dX5_single_26 rfl (lv_at hl 0 rfl) ?_
      refine va_get (ci := 5) (v := .ref (o 23)) (C := RX5) (T := TX5) (N := 24) hx hb hts hi5 hown hK hP 0 rfl rfl 3 (by decide) (hts (.fieldLink RX5 16 "InvaderBoardModel" "reg" "[I") (List.mem_cons_of_mem _ (List.mem_append_left _ (List.mem_append_left _ (List.mem_of_getElem? (i := 1) rfl))))) (fun _ h9 => h9) rfl dX5_single_27 ?_
      refine lv_bipush (v := 7) hx hb dX5_single_30 (by decide) ?_
      refine va_iald (f := a 2) hx hb hK hP 3 0 rfl rfl (by unfold vp_in; decide) dX5_single_32 ?_
      obtain ⟨f_14, a_14, hB_14⟩ := k_ex2 (rOut f_13 a r_13 ((a 2) (7 : Int32).toNatClampNeg))
      have kc_14 := kX5_out l D cI o f_13 a r_13 ((a 2) (7 : Int32).toNatClampNeg)
      rw [hB_14] at kc_14; dsimp only at kc_14
      refine KC.callv (ci := 5) (rest := []) (wt := wR cI o f_14 a_14) (kc_14) (cwV 2 hts gX5_single_X5_out rfl rfl rfl (by decide +kernel) ⟨Nat.le_of_ble_eq_true rfl, Nat.le_of_ble_eq_true rfl⟩) ⟨hx, hb, hml, hown, hts⟩ hK hP hD hS hA rfl rfl rfl [0, 1, 2, 3, 4, 5, 6] [] [0, 1, 2, 3, 4, 5, 6] (by decide) rfl (wr := []) rfl (by decide) (by decide) (by decide) rfl rfl hl.1 rfl (Nat.le_of_ble_eq_true rfl) dX5_single_33 ⟨Nat.zero_le _, Nat.zero_le _⟩ (fun H locs hP hD hS => ?_)
      refine lv_bipush (v := 10) hx hb dX5_single_36 (by decide) ?_
      have hF : rSingle f a p1 = ((10 : Int32), f_14, a_14) := by
        unfold rSingle
        refine (if_pos c_1).trans ?_
        refine (if_pos c_2).trans ?_
        rewrite [hB_13]
        dsimp only
        rewrite [hB_14]
        rfl
      rw [hF]
      exact KC.reti hx hb hr hlocks hK hP hD hS dX5_single_38 rfl
  · refine lv_aload_n hx hb dX5_single_5 rfl (lv_at hl 0 rfl) ?_
    refine lv_aload_n hx hb dX5_single_6 rfl (lv_at hl 0 rfl) ?_
    obtain ⟨r_15, f_15, hB_15⟩ := k_ex2 (rNextTwo f a)
    have kc_15 := kX5_nextTwo l D cI o f a
    rw [hB_15] at kc_15; dsimp only at kc_15
    refine KC.calli (ci := 5) (rest := [.ref (o 20)]) (wt := wR cI o f_15 a) (kc_15) (cwV 0 hts gX5_single_X5_nextTwo rfl rfl rfl (by decide +kernel) ⟨Nat.le_of_ble_eq_true rfl, Nat.le_of_ble_eq_true rfl⟩) ⟨hx, hb, hml, hown, hts⟩ hK hP hD hS hA rfl rfl rfl [0, 1, 2, 3, 4, 5, 6] [] [0, 1, 2, 3, 4, 5, 6] (by decide) rfl (wr := []) rfl (by decide) (by decide) (by decide) rfl rfl hl.1 rfl (Nat.le_of_ble_eq_true rfl) dX5_single_7 ⟨Nat.zero_le _, Nat.zero_le _⟩ (fun H locs hP hD hS => ?_)
    refine pu_R_f1 (v := r_15) hx hb hts hi5 hown hK hP hD hS (hts (.fieldLink RX5 33 "InvaderBoardModel" "pc" "I") (List.mem_cons_of_mem _ (List.mem_append_left _ (List.mem_append_left _ (List.mem_of_getElem? (i := 0) rfl))))) dX5_single_10 (fun H locs hP hD hS => ?_)
    refine lv_bipush (v := 10) hx hb dX5_single_13 (by decide) ?_
    have hF : rSingle f a p1 = ((10 : Int32), upd f_15 1 r_15, a) := by
      unfold rSingle
      refine (if_neg c_1).trans ?_
      rewrite [hB_15]
      rfl
    rw [hF]
    exact KC.reti hx hb hr hlocks hK hP hD hS dX5_single_15 rfl
