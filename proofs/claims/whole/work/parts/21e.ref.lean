def rMoved (f : Nat → Int32) (a : Nat → Nat → Int32) (p1 : Int32) : Int32 × (Nat → Int32) × (Nat → Nat → Int32) :=
  if (4 : Int32) ≤ p1 then (match rNextTwo f a with
    | (r_2, f_2) => if p1 = (4 : Int32) then ((16 : Int32), f_2, ua (ua a 1 (rWrite f_2 a r_2 ((a 2) (5 : Int32).toNatClampNeg))) 1 (rWrite f_2 (ua a 1 (rWrite f_2 a r_2 ((a 2) (5 : Int32).toNatClampNeg))) ((r_2 + (1 : Int32)) &&& (65535 : Int32)) ((a 2) (4 : Int32).toNatClampNeg)))
      else if p1 = (5 : Int32) then ((16 : Int32), f_2, ua (ua a 2 (upd (a 2) (5 : Int32).toNatClampNeg (rRead f_2 a r_2))) 2 (upd (upd (a 2) (5 : Int32).toNatClampNeg (rRead f_2 a r_2)) (4 : Int32).toNatClampNeg (rRead f_2 (ua a 2 (upd (a 2) (5 : Int32).toNatClampNeg (rRead f_2 a r_2))) ((r_2 + (1 : Int32)) &&& (65535 : Int32)))))
        else if p1 = (6 : Int32) then ((13 : Int32), f_2, ua a 1 (rWrite f_2 a r_2 ((a 2) (7 : Int32).toNatClampNeg)))
          else if (6 : Int32) ≤ p1 then ((13 : Int32), f_2, ua a 2 (upd (a 2) (7 : Int32).toNatClampNeg (rRead f_2 a r_2)))
            else ((16 : Int32), f_2, ua a 2 (upd (a 2) (7 : Int32).toNatClampNeg (rRead f_2 a r_2))))
  else if p1 &&& (1 : Int32) = 0 then ((7 : Int32), f, ua a 1 (rWrite f a (rPair f a (p1 >>> ((1 : Int32) &&& 31))) ((a 2) (7 : Int32).toNatClampNeg)))
    else ((7 : Int32), f, ua a 2 (upd (a 2) (7 : Int32).toNatClampNeg (rRead f a (rPair f a (p1 >>> ((1 : Int32) &&& 31))))))
set_option maxHeartbeats 4000000 in
set_option maxRecDepth 100000 in
theorem kX5_moved (l : Launch) (D : va_G) (cI : ClassId) (o : Nat → Nat) (f : Nat → Int32) (a : Nat → Nat → Int32) (p1 : Int32) (h1 : vp_in p1 8) : KC l yX5_moved wsX5_moved 3 [.ref (o 20), .int p1] D cI (wR cI o f a) (wR cI o ((rMoved f a p1).2.1) ((rMoved f a p1).2.2)) (some (.int (rMoved f a p1).1)) := by
  refine KC.of (cc := cX5_moved) (maxL := 3) (by decide) rfl (Nat.le_of_ble_eq_true rfl) ?_
  intro p e s m below meth c A hx hb hr hts hown hlocks hml hK hP hD hS hA ls hl
  have hl : lv_has ls 3 [(0, .ref (o 20)), (1, .int p1)] := hl
  have hown : s.vm.findClass RX5 = some m.cls := hown
  have hi5 : ∀ w ∈ u_ws RX5 TX5 24, w ∈ wsX5_moved := fun w h => List.mem_cons_of_mem _ (List.mem_append_right _ h)
  refine lv_iload_n hx hb dX5_moved_0 rfl (lv_at hl 1 rfl) ?_
  refine lv_iconst (v := 4) hx hb dX5_moved_1 (by decide) ?_
  refine lv_icmp_ge (tgt := 49) hx hb dX5_moved_2 (by decide) (fun c_1 => ?_) (fun c_1 => ?_)
  · refine lv_aload_n hx hb dX5_moved_49 rfl (lv_at hl 0 rfl) ?_
    obtain ⟨r_2, f_2, hB_2⟩ := k_ex2 (rNextTwo f a)
    have kc_2 := kX5_nextTwo l D cI o f a
    rw [hB_2] at kc_2; dsimp only at kc_2
    refine KC.calli (ci := 5) (rest := []) (wt := wR cI o f_2 a) (kc_2) (cwV 0 hts gX5_moved_X5_nextTwo rfl rfl rfl (by decide +kernel) ⟨Nat.le_of_ble_eq_true rfl, Nat.le_of_ble_eq_true rfl⟩) ⟨hx, hb, hml, hown, hts⟩ hK hP hD hS hA rfl rfl rfl [0, 1, 2, 3, 4, 5, 6] [] [0, 1, 2, 3, 4, 5, 6] (by decide) rfl (wr := []) rfl (by decide) (by decide) (by decide) rfl rfl hl.1 rfl (Nat.le_of_ble_eq_true rfl) dX5_moved_50 ⟨Nat.zero_le _, Nat.zero_le _⟩ (fun H locs hP hD hS => ?_)
    refine lv_istore_n (lv' := [(2, .int _), (0, .ref _), (1, .int _)]) hx hb dX5_moved_53 rfl hl (by decide) rfl (fun ls hl => ?_)
    refine lv_iload_n hx hb dX5_moved_54 rfl (lv_at hl 2 rfl) ?_
    refine lv_iconst (v := 4) hx hb dX5_moved_55 (by decide) ?_
    refine lv_icmp_ne (tgt := 89) hx hb dX5_moved_56 (by decide) (fun c_3 => ?_) (fun c_3 => ?_)
    · refine lv_iload_n hx hb dX5_moved_89 rfl (lv_at hl 2 rfl) ?_
      refine lv_iconst (v := 5) hx hb dX5_moved_90 (by decide) ?_
      refine lv_icmp_ne (tgt := 124) hx hb dX5_moved_91 (by decide) (fun c_4 => ?_) (fun c_4 => ?_)
      · refine lv_iload_n hx hb dX5_moved_124 rfl (lv_at hl 2 rfl) ?_
        refine lv_bipush (v := 6) hx hb dX5_moved_125 (by decide) ?_
        refine lv_icmp_ne (tgt := 145) hx hb dX5_moved_127 (by decide) (fun c_5 => ?_) (fun c_5 => ?_)
        · refine lv_aload_n hx hb dX5_moved_145 rfl (lv_at hl 1 rfl) ?_
          refine va_get (ci := 5) (v := .ref (o 23)) (C := RX5) (T := TX5) (N := 24) hx hb hts hi5 hown hK hP 0 rfl rfl 3 (by decide) (hts (.fieldLink RX5 16 "InvaderBoardModel" "reg" "[I") (List.mem_cons_of_mem _ (List.mem_append_left _ (List.mem_append_left _ (List.mem_of_getElem? (i := 0) rfl))))) (fun _ h9 => h9) rfl dX5_moved_146 ?_
          refine lv_bipush (v := 7) hx hb dX5_moved_149 (by decide) ?_
          refine lv_aload_n hx hb dX5_moved_151 rfl (lv_at hl 1 rfl) ?_
          refine lv_iload_n hx hb dX5_moved_152 rfl (lv_at hl 0 rfl) ?_
          refine KC.calli (ci := 5) (rest := [.int (7 : Int32), .ref (o 23)]) (wt := wR cI o f_2 a) (kX5_read l D cI o f_2 a r_2) (cwV 1 hts gX5_moved_X5_read rfl rfl rfl (by decide +kernel) ⟨Nat.le_of_ble_eq_true rfl, Nat.le_of_ble_eq_true rfl⟩) ⟨hx, hb, hml, hown, hts⟩ hK hP hD hS hA rfl rfl rfl [0, 1, 2, 3, 4, 5, 6] [] [0, 1, 2, 3, 4, 5, 6] (by decide) rfl (wr := []) rfl (by decide) (by decide) (by decide) rfl rfl hl.1 rfl (Nat.le_of_ble_eq_true rfl) dX5_moved_153 ⟨Nat.zero_le _, Nat.zero_le _⟩ (fun H locs hP hD hS => ?_)
          refine pu_R_a2 hx hb hK hP hD hS (by unfold vp_in; decide) dX5_moved_156 (fun H locs hP hD hS => ?_)
          refine lv_iload_n hx hb dX5_moved_157 rfl (lv_at hl 2 rfl) ?_
          refine lv_bipush (v := 6) hx hb dX5_moved_158 (by decide) ?_
          refine lv_icmp_ge (tgt := 168) hx hb dX5_moved_160 (by decide) (fun c_6 => ?_) (fun c_6 => ?_)
          · refine lv_bipush (v := 13) hx hb dX5_moved_168 (by decide) ?_
            have hF : rMoved f a p1 = ((13 : Int32), f_2, ua a 2 (upd (a 2) (7 : Int32).toNatClampNeg (rRead f_2 a r_2))) := by
              unfold rMoved
              refine (if_pos c_1).trans ?_
              rewrite [hB_2]
              dsimp only
              refine (if_neg c_3).trans ?_
              refine (if_neg c_4).trans ?_
              refine (if_neg c_5).trans ?_
              refine (if_pos c_6).trans ?_
              rfl
            rw [hF]
            exact KC.reti hx hb hr hlocks hK hP hD hS dX5_moved_170 rfl
          · refine lv_bipush (v := 16) hx hb dX5_moved_163 (by decide) ?_
            refine lv_goto (tgt := 170) hx hb dX5_moved_165 (by decide) ?_
            have hF : rMoved f a p1 = ((16 : Int32), f_2, ua a 2 (upd (a 2) (7 : Int32).toNatClampNeg (rRead f_2 a r_2))) := by
              unfold rMoved
              refine (if_pos c_1).trans ?_
              rewrite [hB_2]
              dsimp only
              refine (if_neg c_3).trans ?_
              refine (if_neg c_4).trans ?_
              refine (if_neg c_5).trans ?_
              refine (if_neg c_6).trans ?_
              rfl
            rw [hF]
            exact KC.reti hx hb hr hlocks hK hP hD hS dX5_moved_170 rfl
        · refine lv_aload_n hx hb dX5_moved_130 rfl (lv_at hl 1 rfl) ?_
          refine lv_iload_n hx hb dX5_moved_131 rfl (lv_at hl 0 rfl) ?_
          refine lv_aload_n hx hb dX5_moved_132 rfl (lv_at hl 1 rfl) ?_
          refine va_get (ci := 5) (v := .ref (o 23)) (C := RX5) (T := TX5) (N := 24) hx hb hts hi5 hown hK hP 0 rfl rfl 3 (by decide) (hts (.fieldLink RX5 16 "InvaderBoardModel" "reg" "[I") (List.mem_cons_of_mem _ (List.mem_append_left _ (List.mem_append_left _ (List.mem_of_getElem? (i := 0) rfl))))) (fun _ h9 => h9) rfl dX5_moved_133 ?_
          refine lv_bipush (v := 7) hx hb dX5_moved_136 (by decide) ?_
          refine va_iald (f := a 2) hx hb hK hP 3 0 rfl rfl (by unfold vp_in; decide) dX5_moved_138 ?_
          refine KC.callv (ci := 5) (rest := []) (wt := wR cI o f_2 (ua a 1 (rWrite f_2 a r_2 ((a 2) (7 : Int32).toNatClampNeg)))) (kX5_write l D cI o f_2 a r_2 ((a 2) (7 : Int32).toNatClampNeg)) (cwV 2 hts gX5_moved_X5_write rfl rfl rfl (by decide +kernel) ⟨Nat.le_of_ble_eq_true rfl, Nat.le_of_ble_eq_true rfl⟩) ⟨hx, hb, hml, hown, hts⟩ hK hP hD hS hA rfl rfl rfl [0, 1, 2, 3, 4, 5, 6] [] [0, 1, 2, 3, 4, 5, 6] (by decide) rfl (wr := []) rfl (by decide) (by decide) (by decide) rfl rfl hl.1 rfl (Nat.le_of_ble_eq_true rfl) dX5_moved_139 ⟨Nat.zero_le _, Nat.zero_le _⟩ (fun H locs hP hD hS => ?_)
          refine lv_goto (tgt := 157) hx hb dX5_moved_142 (by decide) ?_
          refine lv_iload_n hx hb dX5_moved_157 rfl (lv_at hl 2 rfl) ?_
          refine lv_bipush (v := 6) hx hb dX5_moved_158 (by decide) ?_
          refine lv_icmp_ge (tgt := 168) hx hb dX5_moved_160 (by decide) (fun c_7 => ?_) (fun c_7 => ?_)
          · refine lv_bipush (v := 13) hx hb dX5_moved_168 (by decide) ?_
            have hF : rMoved f a p1 = ((13 : Int32), f_2, ua a 1 (rWrite f_2 a r_2 ((a 2) (7 : Int32).toNatClampNeg))) := by
              unfold rMoved
              refine (if_pos c_1).trans ?_
              rewrite [hB_2]
              dsimp only
              refine (if_neg c_3).trans ?_
              refine (if_neg c_4).trans ?_
              refine (if_pos c_5).trans ?_
              rfl
            rw [hF]
            exact KC.reti hx hb hr hlocks hK hP hD hS dX5_moved_170 rfl
          · exact absurd c_7 (by rw [c_5]; decide)
      · refine lv_aload_n hx hb dX5_moved_94 rfl (lv_at hl 1 rfl) ?_
        refine va_get (ci := 5) (v := .ref (o 23)) (C := RX5) (T := TX5) (N := 24) hx hb hts hi5 hown hK hP 0 rfl rfl 3 (by decide) (hts (.fieldLink RX5 16 "InvaderBoardModel" "reg" "[I") (List.mem_cons_of_mem _ (List.mem_append_left _ (List.mem_append_left _ (List.mem_of_getElem? (i := 0) rfl))))) (fun _ h9 => h9) rfl dX5_moved_95 ?_
        refine lv_iconst (v := 5) hx hb dX5_moved_98 (by decide) ?_
        refine lv_aload_n hx hb dX5_moved_99 rfl (lv_at hl 1 rfl) ?_
        refine lv_iload_n hx hb dX5_moved_100 rfl (lv_at hl 0 rfl) ?_
        refine KC.calli (ci := 5) (rest := [.int (5 : Int32), .ref (o 23)]) (wt := wR cI o f_2 a) (kX5_read l D cI o f_2 a r_2) (cwV 1 hts gX5_moved_X5_read rfl rfl rfl (by decide +kernel) ⟨Nat.le_of_ble_eq_true rfl, Nat.le_of_ble_eq_true rfl⟩) ⟨hx, hb, hml, hown, hts⟩ hK hP hD hS hA rfl rfl rfl [0, 1, 2, 3, 4, 5, 6] [] [0, 1, 2, 3, 4, 5, 6] (by decide) rfl (wr := []) rfl (by decide) (by decide) (by decide) rfl rfl hl.1 rfl (Nat.le_of_ble_eq_true rfl) dX5_moved_101 ⟨Nat.zero_le _, Nat.zero_le _⟩ (fun H locs hP hD hS => ?_)
        refine pu_R_a2 hx hb hK hP hD hS (by unfold vp_in; decide) dX5_moved_104 (fun H locs hP hD hS => ?_)
        refine lv_aload_n hx hb dX5_moved_105 rfl (lv_at hl 1 rfl) ?_
        refine va_get (ci := 5) (v := .ref (o 23)) (C := RX5) (T := TX5) (N := 24) hx hb hts hi5 hown hK hP 0 rfl rfl 3 (by decide) (hts (.fieldLink RX5 16 "InvaderBoardModel" "reg" "[I") (List.mem_cons_of_mem _ (List.mem_append_left _ (List.mem_append_left _ (List.mem_of_getElem? (i := 0) rfl))))) (fun _ h9 => h9) rfl dX5_moved_106 ?_
        refine lv_iconst (v := 4) hx hb dX5_moved_109 (by decide) ?_
        refine lv_aload_n hx hb dX5_moved_110 rfl (lv_at hl 1 rfl) ?_
        refine lv_iload_n hx hb dX5_moved_111 rfl (lv_at hl 0 rfl) ?_
        refine lv_iconst (v := 1) hx hb dX5_moved_112 (by decide) ?_
        refine lv_iadd hx hb dX5_moved_113 ?_
        refine lv_ldc (v := 65535) hx hb hown (hts (.constant RX5 32 65535) (List.mem_cons_of_mem _ (List.mem_append_left _ (List.mem_append_left _ (List.mem_of_getElem? (i := 1) rfl))))) dX5_moved_114 ?_
        refine lv_iand hx hb dX5_moved_116 ?_
        refine KC.calli (ci := 5) (rest := [.int (4 : Int32), .ref (o 23)]) (wt := wR cI o f_2 (ua a 2 (upd (a 2) (5 : Int32).toNatClampNeg (rRead f_2 a r_2)))) (kX5_read l D cI o f_2 (ua a 2 (upd (a 2) (5 : Int32).toNatClampNeg (rRead f_2 a r_2))) ((r_2 + (1 : Int32)) &&& (65535 : Int32))) (cwV 1 hts gX5_moved_X5_read rfl rfl rfl (by decide +kernel) ⟨Nat.le_of_ble_eq_true rfl, Nat.le_of_ble_eq_true rfl⟩) ⟨hx, hb, hml, hown, hts⟩ hK hP hD hS hA rfl rfl rfl [0, 1, 2, 3, 4, 5, 6] [] [0, 1, 2, 3, 4, 5, 6] (by decide) rfl (wr := []) rfl (by decide) (by decide) (by decide) rfl rfl hl.1 rfl (Nat.le_of_ble_eq_true rfl) dX5_moved_117 ⟨Nat.zero_le _, Nat.zero_le _⟩ (fun H locs hP hD hS => ?_)
        refine pu_R_a2 hx hb hK hP hD hS (by unfold vp_in; decide) dX5_moved_120 (fun H locs hP hD hS => ?_)
        have hP : va_P D vwCl (wR cI o f_2 (ua (ua a 2 (upd (a 2) (5 : Int32).toNatClampNeg (rRead f_2 a r_2))) 2 (upd (upd (a 2) (5 : Int32).toNatClampNeg (rRead f_2 a r_2)) (4 : Int32).toNatClampNeg (rRead f_2 (ua a 2 (upd (a 2) (5 : Int32).toNatClampNeg (rRead f_2 a r_2))) ((r_2 + (1 : Int32)) &&& (65535 : Int32)))))) H := hP
        have hD : va_D A (wR cI o f_2 (ua (ua a 2 (upd (a 2) (5 : Int32).toNatClampNeg (rRead f_2 a r_2))) 2 (upd (upd (a 2) (5 : Int32).toNatClampNeg (rRead f_2 a r_2)) (4 : Int32).toNatClampNeg (rRead f_2 (ua a 2 (upd (a 2) (5 : Int32).toNatClampNeg (rRead f_2 a r_2))) ((r_2 + (1 : Int32)) &&& (65535 : Int32)))))) := hD
        refine lv_goto (tgt := 157) hx hb dX5_moved_121 (by decide) ?_
        refine lv_iload_n hx hb dX5_moved_157 rfl (lv_at hl 2 rfl) ?_
        refine lv_bipush (v := 6) hx hb dX5_moved_158 (by decide) ?_
        refine lv_icmp_ge (tgt := 168) hx hb dX5_moved_160 (by decide) (fun c_8 => ?_) (fun c_8 => ?_)
        · exact absurd c_8 (by rw [c_4]; decide)
        · refine lv_bipush (v := 16) hx hb dX5_moved_163 (by decide) ?_
          refine lv_goto (tgt := 170) hx hb dX5_moved_165 (by decide) ?_
          have hF : rMoved f a p1 = ((16 : Int32), f_2, ua (ua a 2 (upd (a 2) (5 : Int32).toNatClampNeg (rRead f_2 a r_2))) 2 (upd (upd (a 2) (5 : Int32).toNatClampNeg (rRead f_2 a r_2)) (4 : Int32).toNatClampNeg (rRead f_2 (ua a 2 (upd (a 2) (5 : Int32).toNatClampNeg (rRead f_2 a r_2))) ((r_2 + (1 : Int32)) &&& (65535 : Int32))))) := by
            unfold rMoved
            refine (if_pos c_1).trans ?_
            rewrite [hB_2]
            dsimp only
            refine (if_neg c_3).trans ?_
            refine (if_pos c_4).trans ?_
            rfl
          rw [hF]
          exact KC.reti hx hb hr hlocks hK hP hD hS dX5_moved_170 rfl
    · refine lv_aload_n hx hb dX5_moved_59 rfl (lv_at hl 1 rfl) ?_
      refine lv_iload_n hx hb dX5_moved_60 rfl (lv_at hl 0 rfl) ?_
      refine lv_aload_n hx hb dX5_moved_61 rfl (lv_at hl 1 rfl) ?_
      refine va_get (ci := 5) (v := .ref (o 23)) (C := RX5) (T := TX5) (N := 24) hx hb hts hi5 hown hK hP 0 rfl rfl 3 (by decide) (hts (.fieldLink RX5 16 "InvaderBoardModel" "reg" "[I") (List.mem_cons_of_mem _ (List.mem_append_left _ (List.mem_append_left _ (List.mem_of_getElem? (i := 0) rfl))))) (fun _ h9 => h9) rfl dX5_moved_62 ?_
      refine lv_iconst (v := 5) hx hb dX5_moved_65 (by decide) ?_
      refine va_iald (f := a 2) hx hb hK hP 3 0 rfl rfl (by unfold vp_in; decide) dX5_moved_66 ?_
      refine KC.callv (ci := 5) (rest := []) (wt := wR cI o f_2 (ua a 1 (rWrite f_2 a r_2 ((a 2) (5 : Int32).toNatClampNeg)))) (kX5_write l D cI o f_2 a r_2 ((a 2) (5 : Int32).toNatClampNeg)) (cwV 2 hts gX5_moved_X5_write rfl rfl rfl (by decide +kernel) ⟨Nat.le_of_ble_eq_true rfl, Nat.le_of_ble_eq_true rfl⟩) ⟨hx, hb, hml, hown, hts⟩ hK hP hD hS hA rfl rfl rfl [0, 1, 2, 3, 4, 5, 6] [] [0, 1, 2, 3, 4, 5, 6] (by decide) rfl (wr := []) rfl (by decide) (by decide) (by decide) rfl rfl hl.1 rfl (Nat.le_of_ble_eq_true rfl) dX5_moved_67 ⟨Nat.zero_le _, Nat.zero_le _⟩ (fun H locs hP hD hS => ?_)
      refine lv_aload_n hx hb dX5_moved_70 rfl (lv_at hl 1 rfl) ?_
      refine lv_iload_n hx hb dX5_moved_71 rfl (lv_at hl 0 rfl) ?_
      refine lv_iconst (v := 1) hx hb dX5_moved_72 (by decide) ?_
      refine lv_iadd hx hb dX5_moved_73 ?_
      refine lv_ldc (v := 65535) hx hb hown (hts (.constant RX5 32 65535) (List.mem_cons_of_mem _ (List.mem_append_left _ (List.mem_append_left _ (List.mem_of_getElem? (i := 1) rfl))))) dX5_moved_74 ?_
      refine lv_iand hx hb dX5_moved_76 ?_
      refine lv_aload_n hx hb dX5_moved_77 rfl (lv_at hl 1 rfl) ?_
      refine va_get (ci := 5) (v := .ref (o 23)) (C := RX5) (T := TX5) (N := 24) hx hb hts hi5 hown hK hP 0 rfl rfl 3 (by decide) (hts (.fieldLink RX5 16 "InvaderBoardModel" "reg" "[I") (List.mem_cons_of_mem _ (List.mem_append_left _ (List.mem_append_left _ (List.mem_of_getElem? (i := 0) rfl))))) (fun _ h9 => h9) rfl dX5_moved_78 ?_
      refine lv_iconst (v := 4) hx hb dX5_moved_81 (by decide) ?_
      refine va_iald (f := a 2) hx hb hK hP 3 0 rfl rfl (by unfold vp_in; decide) dX5_moved_82 ?_
      refine KC.callv (ci := 5) (rest := []) (wt := wR cI o f_2 (ua (ua a 1 (rWrite f_2 a r_2 ((a 2) (5 : Int32).toNatClampNeg))) 1 (rWrite f_2 (ua a 1 (rWrite f_2 a r_2 ((a 2) (5 : Int32).toNatClampNeg))) ((r_2 + (1 : Int32)) &&& (65535 : Int32)) ((a 2) (4 : Int32).toNatClampNeg)))) (kX5_write l D cI o f_2 (ua a 1 (rWrite f_2 a r_2 ((a 2) (5 : Int32).toNatClampNeg))) ((r_2 + (1 : Int32)) &&& (65535 : Int32)) ((a 2) (4 : Int32).toNatClampNeg)) (cwV 2 hts gX5_moved_X5_write rfl rfl rfl (by decide +kernel) ⟨Nat.le_of_ble_eq_true rfl, Nat.le_of_ble_eq_true rfl⟩) ⟨hx, hb, hml, hown, hts⟩ hK hP hD hS hA rfl rfl rfl [0, 1, 2, 3, 4, 5, 6] [] [0, 1, 2, 3, 4, 5, 6] (by decide) rfl (wr := []) rfl (by decide) (by decide) (by decide) rfl rfl hl.1 rfl (Nat.le_of_ble_eq_true rfl) dX5_moved_83 ⟨Nat.zero_le _, Nat.zero_le _⟩ (fun H locs hP hD hS => ?_)
      refine lv_goto (tgt := 157) hx hb dX5_moved_86 (by decide) ?_
      refine lv_iload_n hx hb dX5_moved_157 rfl (lv_at hl 2 rfl) ?_
      refine lv_bipush (v := 6) hx hb dX5_moved_158 (by decide) ?_
      refine lv_icmp_ge (tgt := 168) hx hb dX5_moved_160 (by decide) (fun c_9 => ?_) (fun c_9 => ?_)
      · exact absurd c_9 (by rw [c_3]; decide)
      · refine lv_bipush (v := 16) hx hb dX5_moved_163 (by decide) ?_
        refine lv_goto (tgt := 170) hx hb dX5_moved_165 (by decide) ?_
        have hF : rMoved f a p1 = ((16 : Int32), f_2, ua (ua a 1 (rWrite f_2 a r_2 ((a 2) (5 : Int32).toNatClampNeg))) 1 (rWrite f_2 (ua a 1 (rWrite f_2 a r_2 ((a 2) (5 : Int32).toNatClampNeg))) ((r_2 + (1 : Int32)) &&& (65535 : Int32)) ((a 2) (4 : Int32).toNatClampNeg))) := by
          unfold rMoved
          refine (if_pos c_1).trans ?_
          rewrite [hB_2]
          dsimp only
          refine (if_pos c_3).trans ?_
          rfl
        rw [hF]
        exact KC.reti hx hb hr hlocks hK hP hD hS dX5_moved_170 rfl
  · refine lv_aload_n hx hb dX5_moved_5 rfl (lv_at hl 0 rfl) ?_
    refine lv_iload_n hx hb dX5_moved_6 rfl (lv_at hl 1 rfl) ?_
    refine lv_iconst (v := 1) hx hb dX5_moved_7 (by decide) ?_
    refine lv_ishr hx hb dX5_moved_8 ?_
    refine KC.calli (ci := 5) (rest := []) (wt := wR cI o f a) (kX5_pair l D cI o f a (p1 >>> ((1 : Int32) &&& 31)) (xin_sh1 h1)) (cwV 1 hts gX5_moved_X5_pair rfl rfl rfl (by decide +kernel) ⟨Nat.le_of_ble_eq_true rfl, Nat.le_of_ble_eq_true rfl⟩) ⟨hx, hb, hml, hown, hts⟩ hK hP hD hS hA rfl rfl rfl [0, 1, 2, 3, 4, 5, 6] [] [0, 1, 2, 3, 4, 5, 6] (by decide) rfl (wr := []) rfl (by decide) (by decide) (by decide) rfl rfl hl.1 rfl (Nat.le_of_ble_eq_true rfl) dX5_moved_9 ⟨Nat.zero_le _, Nat.zero_le _⟩ (fun H locs hP hD hS => ?_)
    refine lv_istore_n (lv' := [(2, .int _), (0, .ref _), (1, .int _)]) hx hb dX5_moved_12 rfl hl (by decide) rfl (fun ls hl => ?_)
    refine lv_iload_n hx hb dX5_moved_13 rfl (lv_at hl 2 rfl) ?_
    refine lv_iconst (v := 1) hx hb dX5_moved_14 (by decide) ?_
    refine lv_iand hx hb dX5_moved_15 ?_
    refine lv_if_ne (tgt := 34) hx hb dX5_moved_16 (by decide) (fun c_10 => ?_) (fun c_10 => ?_)
    · refine lv_aload_n hx hb dX5_moved_34 rfl (lv_at hl 1 rfl) ?_
      refine va_get (ci := 5) (v := .ref (o 23)) (C := RX5) (T := TX5) (N := 24) hx hb hts hi5 hown hK hP 0 rfl rfl 3 (by decide) (hts (.fieldLink RX5 16 "InvaderBoardModel" "reg" "[I") (List.mem_cons_of_mem _ (List.mem_append_left _ (List.mem_append_left _ (List.mem_of_getElem? (i := 0) rfl))))) (fun _ h9 => h9) rfl dX5_moved_35 ?_
      refine lv_bipush (v := 7) hx hb dX5_moved_38 (by decide) ?_
      refine lv_aload_n hx hb dX5_moved_40 rfl (lv_at hl 1 rfl) ?_
      refine lv_iload_n hx hb dX5_moved_41 rfl (lv_at hl 0 rfl) ?_
      refine KC.calli (ci := 5) (rest := [.int (7 : Int32), .ref (o 23)]) (wt := wR cI o f a) (kX5_read l D cI o f a (rPair f a (p1 >>> ((1 : Int32) &&& 31)))) (cwV 1 hts gX5_moved_X5_read rfl rfl rfl (by decide +kernel) ⟨Nat.le_of_ble_eq_true rfl, Nat.le_of_ble_eq_true rfl⟩) ⟨hx, hb, hml, hown, hts⟩ hK hP hD hS hA rfl rfl rfl [0, 1, 2, 3, 4, 5, 6] [] [0, 1, 2, 3, 4, 5, 6] (by decide) rfl (wr := []) rfl (by decide) (by decide) (by decide) rfl rfl hl.1 rfl (Nat.le_of_ble_eq_true rfl) dX5_moved_42 ⟨Nat.zero_le _, Nat.zero_le _⟩ (fun H locs hP hD hS => ?_)
      refine pu_R_a2 hx hb hK hP hD hS (by unfold vp_in; decide) dX5_moved_45 (fun H locs hP hD hS => ?_)
      refine lv_bipush (v := 7) hx hb dX5_moved_46 (by decide) ?_
      have hF : rMoved f a p1 = ((7 : Int32), f, ua a 2 (upd (a 2) (7 : Int32).toNatClampNeg (rRead f a (rPair f a (p1 >>> ((1 : Int32) &&& 31)))))) := by
        unfold rMoved
        refine (if_neg c_1).trans ?_
        refine (if_neg c_10).trans ?_
        rfl
      rw [hF]
      exact KC.reti hx hb hr hlocks hK hP hD hS dX5_moved_48 rfl
    · refine lv_aload_n hx hb dX5_moved_19 rfl (lv_at hl 1 rfl) ?_
      refine lv_iload_n hx hb dX5_moved_20 rfl (lv_at hl 0 rfl) ?_
      refine lv_aload_n hx hb dX5_moved_21 rfl (lv_at hl 1 rfl) ?_
      refine va_get (ci := 5) (v := .ref (o 23)) (C := RX5) (T := TX5) (N := 24) hx hb hts hi5 hown hK hP 0 rfl rfl 3 (by decide) (hts (.fieldLink RX5 16 "InvaderBoardModel" "reg" "[I") (List.mem_cons_of_mem _ (List.mem_append_left _ (List.mem_append_left _ (List.mem_of_getElem? (i := 0) rfl))))) (fun _ h9 => h9) rfl dX5_moved_22 ?_
      refine lv_bipush (v := 7) hx hb dX5_moved_25 (by decide) ?_
      refine va_iald (f := a 2) hx hb hK hP 3 0 rfl rfl (by unfold vp_in; decide) dX5_moved_27 ?_
      refine KC.callv (ci := 5) (rest := []) (wt := wR cI o f (ua a 1 (rWrite f a (rPair f a (p1 >>> ((1 : Int32) &&& 31))) ((a 2) (7 : Int32).toNatClampNeg)))) (kX5_write l D cI o f a (rPair f a (p1 >>> ((1 : Int32) &&& 31))) ((a 2) (7 : Int32).toNatClampNeg)) (cwV 2 hts gX5_moved_X5_write rfl rfl rfl (by decide +kernel) ⟨Nat.le_of_ble_eq_true rfl, Nat.le_of_ble_eq_true rfl⟩) ⟨hx, hb, hml, hown, hts⟩ hK hP hD hS hA rfl rfl rfl [0, 1, 2, 3, 4, 5, 6] [] [0, 1, 2, 3, 4, 5, 6] (by decide) rfl (wr := []) rfl (by decide) (by decide) (by decide) rfl rfl hl.1 rfl (Nat.le_of_ble_eq_true rfl) dX5_moved_28 ⟨Nat.zero_le _, Nat.zero_le _⟩ (fun H locs hP hD hS => ?_)
      refine lv_goto (tgt := 46) hx hb dX5_moved_31 (by decide) ?_
      refine lv_bipush (v := 7) hx hb dX5_moved_46 (by decide) ?_
      have hF : rMoved f a p1 = ((7 : Int32), f, ua a 1 (rWrite f a (rPair f a (p1 >>> ((1 : Int32) &&& 31))) ((a 2) (7 : Int32).toNatClampNeg))) := by
        unfold rMoved
        refine (if_neg c_1).trans ?_
        refine (if_pos c_10).trans ?_
        rfl
      rw [hF]
      exact KC.reti hx hb hr hlocks hK hP hD hS dX5_moved_48 rfl
