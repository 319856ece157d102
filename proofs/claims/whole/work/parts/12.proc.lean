def xCalculate (f : Nat → Int32) (a : Nat → Nat → Int32) (p1 : Int32) (p2 : Int32) : (Nat → Int32) × (Nat → Nat → Int32) :=
  if p1 &&& (7 : Int32) = (0 : Int32) then (match xAdd f a ((a 2) (7 : Int32).toNatClampNeg) p2 (0 : Int32) (0 : Int32) with
    | (r_2, f_2) => (f_2, ua a 2 (upd (a 2) (7 : Int32).toNatClampNeg r_2)))
  else if p1 &&& (7 : Int32) = (1 : Int32) then (match xAdd f a ((a 2) (7 : Int32).toNatClampNeg) p2 ((f 11) &&& (1 : Int32)) (0 : Int32) with
      | (r_4, f_4) => (f_4, ua a 2 (upd (a 2) (7 : Int32).toNatClampNeg r_4)))
    else if p1 &&& (7 : Int32) = (2 : Int32) then (match xAdd f a ((a 2) (7 : Int32).toNatClampNeg) (p2 ^^^ (255 : Int32)) (1 : Int32) (1 : Int32) with
        | (r_6, f_6) => (f_6, ua a 2 (upd (a 2) (7 : Int32).toNatClampNeg r_6)))
      else if p1 &&& (7 : Int32) = (3 : Int32) then (match xAdd f a ((a 2) (7 : Int32).toNatClampNeg) (p2 ^^^ (255 : Int32)) ((1 : Int32) - ((f 11) &&& (1 : Int32))) (1 : Int32) with
          | (r_8, f_8) => (f_8, ua a 2 (upd (a 2) (7 : Int32).toNatClampNeg r_8)))
        else if p1 &&& (7 : Int32) = (4 : Int32) then (match xSetLogical f a (((a 2) (7 : Int32).toNatClampNeg) &&& p2) (((((a 2) (7 : Int32).toNatClampNeg) ||| p2) <<< ((1 : Int32) &&& 31)) &&& (16 : Int32)) with
            | (f_10, a_10) => (f_10, a_10))
          else if p1 &&& (7 : Int32) = (5 : Int32) then (match xSetLogical f a (((a 2) (7 : Int32).toNatClampNeg) ^^^ p2) (0 : Int32) with
              | (f_12, a_12) => (f_12, a_12))
            else if p1 &&& (7 : Int32) = (6 : Int32) then (match xSetLogical f a (((a 2) (7 : Int32).toNatClampNeg) ||| p2) (0 : Int32) with
                | (f_14, a_14) => (f_14, a_14))
              else (match xAdd f a ((a 2) (7 : Int32).toNatClampNeg) (p2 ^^^ (255 : Int32)) (1 : Int32) (1 : Int32) with
                | (r_15, f_15) => (f_15, a))
set_option maxHeartbeats 4000000 in
set_option maxRecDepth 100000 in
theorem kX3_calculate (l : Launch) (D : va_G) (cI : ClassId) (o : Nat → Nat) (f : Nat → Int32) (a : Nat → Nat → Int32) (p1 : Int32) (p2 : Int32) : KC l yX3_calculate wsX3_calculate 3 [.ref (o 0), .int p1, .int p2] D cI (wP cI o f a) (wP cI o ((xCalculate f a p1 p2).1) ((xCalculate f a p1 p2).2)) none := by
  refine KC.of (cc := cX3_calculate) (maxL := 5) (by decide) rfl (Nat.le_of_ble_eq_true rfl) ?_
  intro p e s m below meth c A hx hb hr hts hown hlocks hml hK hP hD hS hA ls hl
  have hl : lv_has ls 5 [(0, .ref (o 0)), (1, .int p1), (2, .int p2)] := hl
  have hown : s.vm.findClass RX3 = some m.cls := hown
  have hi3 : ∀ w ∈ u_ws RX3 TX3 9, w ∈ wsX3_calculate := fun w h => List.mem_cons_of_mem _ (List.mem_append_right _ h)
  refine lv_aload_n hx hb dX3_calculate_0 rfl (lv_at hl 0 rfl) ?_
  refine va_get (ci := 3) (v := .ref (o 1)) (C := RX3) (T := TX3) (N := 9) hx hb hts hi3 hown hK hP 0 rfl rfl 2 (by decide) (hts (.fieldLink RX3 9 "InvaderBoard$Processor" "registers" "[I") (List.mem_cons_of_mem _ (List.mem_append_left _ (List.mem_of_getElem? (i := 0) rfl)))) (fun _ h9 => h9) rfl dX3_calculate_1 ?_
  refine lv_bipush (v := 7) hx hb dX3_calculate_4 (by decide) ?_
  refine va_iald (f := a 2) hx hb hK hP 1 0 rfl rfl (by unfold vp_in; decide) dX3_calculate_6 ?_
  refine lv_istore_n (lv' := [(3, .int _), (0, .ref _), (1, .int _), (2, .int _)]) hx hb dX3_calculate_7 rfl hl (by decide) rfl (fun ls hl => ?_)
  refine lv_aload_n hx hb dX3_calculate_8 rfl (lv_at hl 1 rfl) ?_
  refine va_get (ci := 3) (v := .int (f 11)) (C := RX3) (T := TX3) (N := 9) hx hb hts hi3 hown hK hP 0 rfl rfl 3 (by decide) (hts (.fieldLink RX3 13 "InvaderBoard$Processor" "flags" "I") (List.mem_cons_of_mem _ (List.mem_append_left _ (List.mem_of_getElem? (i := 1) rfl)))) (fun _ h9 => h9) rfl dX3_calculate_9 ?_
  refine lv_iconst (v := 1) hx hb dX3_calculate_12 (by decide) ?_
  refine lv_iand hx hb dX3_calculate_13 ?_
  refine lv_istore (lv' := [(4, .int _), (3, .int _), (0, .ref _), (1, .int _), (2, .int _)]) hx hb dX3_calculate_14 hl (by decide) rfl (fun ls hl => ?_)
  refine lv_iload_n hx hb dX3_calculate_16 rfl (lv_at hl 3 rfl) ?_
  refine lv_bipush (v := 7) hx hb dX3_calculate_17 (by decide) ?_
  refine lv_iand hx hb dX3_calculate_19 ?_
  by_cases c_1 : p1 &&& (7 : Int32) = (0 : Int32)
  · refine k_tin (tgt := 64) hx hb (0 : Int32) c_1 dX3_calculate_20 (by decide) (by decide) rfl (by decide) ?_
    refine lv_aload_n hx hb dX3_calculate_64 rfl (lv_at hl 2 rfl) ?_
    refine va_get (ci := 3) (v := .ref (o 1)) (C := RX3) (T := TX3) (N := 9) hx hb hts hi3 hown hK hP 0 rfl rfl 2 (by decide) (hts (.fieldLink RX3 9 "InvaderBoard$Processor" "registers" "[I") (List.mem_cons_of_mem _ (List.mem_append_left _ (List.mem_of_getElem? (i := 0) rfl)))) (fun _ h9 => h9) rfl dX3_calculate_65 ?_
    refine lv_bipush (v := 7) hx hb dX3_calculate_68 (by decide) ?_
    refine lv_aload_n hx hb dX3_calculate_70 rfl (lv_at hl 2 rfl) ?_
    refine lv_iload_n hx hb dX3_calculate_71 rfl (lv_at hl 1 rfl) ?_
    refine lv_iload_n hx hb dX3_calculate_72 rfl (lv_at hl 4 rfl) ?_
    refine lv_iconst (v := 0) hx hb dX3_calculate_73 (by decide) ?_
    refine lv_iconst (v := 0) hx hb dX3_calculate_74 (by decide) ?_
    obtain ⟨r_2, f_2, hB_2⟩ := k_ex2 (xAdd f a ((a 2) (7 : Int32).toNatClampNeg) p2 (0 : Int32) (0 : Int32))
    have kc_2 := kX3_add l D cI o f a ((a 2) (7 : Int32).toNatClampNeg) p2 (0 : Int32) (0 : Int32)
    rw [hB_2] at kc_2; dsimp only at kc_2
    refine KC.calli (ci := 3) (rest := [.int (7 : Int32), .ref (o 1)]) (wt := wP cI o f_2 a) (kc_2) (cwV 4 hts gX3_calculate_X3_add rfl rfl rfl (by decide +kernel) ⟨Nat.le_of_ble_eq_true rfl, Nat.le_of_ble_eq_true rfl⟩) ⟨hx, hb, hml, hown, hts⟩ hK hP hD hS hA rfl rfl rfl [0, 1, 2, 3, 4, 5, 6, 7, 8] [] [0, 1, 2, 3, 4, 5, 6, 7, 8] (by decide) rfl (wr := []) rfl (by decide) (by decide) (by decide) rfl rfl hl.1 rfl (Nat.le_of_ble_eq_true rfl) dX3_calculate_75 ⟨Nat.zero_le _, Nat.zero_le _⟩ (fun H locs hP hD hS => ?_)
    refine pu_P_a2 hx hb hK hP hD hS (by unfold vp_in; decide) dX3_calculate_78 (fun H locs hP hD hS => ?_)
    refine lv_goto (tgt := 201) hx hb dX3_calculate_79 (by decide) ?_
    have hF : xCalculate f a p1 p2 = (f_2, ua a 2 (upd (a 2) (7 : Int32).toNatClampNeg r_2)) := by
      unfold xCalculate
      refine (if_pos c_1).trans ?_
      rewrite [hB_2]
      rfl
    rw [hF]
    exact KC.retv hx hb hr hlocks hK hP hD hS dX3_calculate_201
  by_cases c_3 : p1 &&& (7 : Int32) = (1 : Int32)
  · refine k_tin (tgt := 82) hx hb (1 : Int32) c_3 dX3_calculate_20 (by decide) (by decide) rfl (by decide) ?_
    refine lv_aload_n hx hb dX3_calculate_82 rfl (lv_at hl 2 rfl) ?_
    refine va_get (ci := 3) (v := .ref (o 1)) (C := RX3) (T := TX3) (N := 9) hx hb hts hi3 hown hK hP 0 rfl rfl 2 (by decide) (hts (.fieldLink RX3 9 "InvaderBoard$Processor" "registers" "[I") (List.mem_cons_of_mem _ (List.mem_append_left _ (List.mem_of_getElem? (i := 0) rfl)))) (fun _ h9 => h9) rfl dX3_calculate_83 ?_
    refine lv_bipush (v := 7) hx hb dX3_calculate_86 (by decide) ?_
    refine lv_aload_n hx hb dX3_calculate_88 rfl (lv_at hl 2 rfl) ?_
    refine lv_iload_n hx hb dX3_calculate_89 rfl (lv_at hl 1 rfl) ?_
    refine lv_iload_n hx hb dX3_calculate_90 rfl (lv_at hl 4 rfl) ?_
    refine lv_iload hx hb dX3_calculate_91 (lv_at hl 0 rfl) ?_
    refine lv_iconst (v := 0) hx hb dX3_calculate_93 (by decide) ?_
    obtain ⟨r_4, f_4, hB_4⟩ := k_ex2 (xAdd f a ((a 2) (7 : Int32).toNatClampNeg) p2 ((f 11) &&& (1 : Int32)) (0 : Int32))
    have kc_4 := kX3_add l D cI o f a ((a 2) (7 : Int32).toNatClampNeg) p2 ((f 11) &&& (1 : Int32)) (0 : Int32)
    rw [hB_4] at kc_4; dsimp only at kc_4
    refine KC.calli (ci := 3) (rest := [.int (7 : Int32), .ref (o 1)]) (wt := wP cI o f_4 a) (kc_4) (cwV 4 hts gX3_calculate_X3_add rfl rfl rfl (by decide +kernel) ⟨Nat.le_of_ble_eq_true rfl, Nat.le_of_ble_eq_true rfl⟩) ⟨hx, hb, hml, hown, hts⟩ hK hP hD hS hA rfl rfl rfl [0, 1, 2, 3, 4, 5, 6, 7, 8] [] [0, 1, 2, 3, 4, 5, 6, 7, 8] (by decide) rfl (wr := []) rfl (by decide) (by decide) (by decide) rfl rfl hl.1 rfl (Nat.le_of_ble_eq_true rfl) dX3_calculate_94 ⟨Nat.zero_le _, Nat.zero_le _⟩ (fun H locs hP hD hS => ?_)
    refine pu_P_a2 hx hb hK hP hD hS (by unfold vp_in; decide) dX3_calculate_97 (fun H locs hP hD hS => ?_)
    refine lv_goto (tgt := 201) hx hb dX3_calculate_98 (by decide) ?_
    have hF : xCalculate f a p1 p2 = (f_4, ua a 2 (upd (a 2) (7 : Int32).toNatClampNeg r_4)) := by
      unfold xCalculate
      refine (if_neg c_1).trans ?_
      refine (if_pos c_3).trans ?_
      rewrite [hB_4]
      rfl
    rw [hF]
    exact KC.retv hx hb hr hlocks hK hP hD hS dX3_calculate_201
  by_cases c_5 : p1 &&& (7 : Int32) = (2 : Int32)
  · refine k_tin (tgt := 101) hx hb (2 : Int32) c_5 dX3_calculate_20 (by decide) (by decide) rfl (by decide) ?_
    refine lv_aload_n hx hb dX3_calculate_101 rfl (lv_at hl 2 rfl) ?_
    refine va_get (ci := 3) (v := .ref (o 1)) (C := RX3) (T := TX3) (N := 9) hx hb hts hi3 hown hK hP 0 rfl rfl 2 (by decide) (hts (.fieldLink RX3 9 "InvaderBoard$Processor" "registers" "[I") (List.mem_cons_of_mem _ (List.mem_append_left _ (List.mem_of_getElem? (i := 0) rfl)))) (fun _ h9 => h9) rfl dX3_calculate_102 ?_
    refine lv_bipush (v := 7) hx hb dX3_calculate_105 (by decide) ?_
    refine lv_aload_n hx hb dX3_calculate_107 rfl (lv_at hl 2 rfl) ?_
    refine lv_iload_n hx hb dX3_calculate_108 rfl (lv_at hl 1 rfl) ?_
    refine lv_iload_n hx hb dX3_calculate_109 rfl (lv_at hl 4 rfl) ?_
    refine lv_sipush (v := 255) hx hb dX3_calculate_110 (by decide) ?_
    refine lv_ixor hx hb dX3_calculate_113 ?_
    refine lv_iconst (v := 1) hx hb dX3_calculate_114 (by decide) ?_
    refine lv_iconst (v := 1) hx hb dX3_calculate_115 (by decide) ?_
    obtain ⟨r_6, f_6, hB_6⟩ := k_ex2 (xAdd f a ((a 2) (7 : Int32).toNatClampNeg) (p2 ^^^ (255 : Int32)) (1 : Int32) (1 : Int32))
    have kc_6 := kX3_add l D cI o f a ((a 2) (7 : Int32).toNatClampNeg) (p2 ^^^ (255 : Int32)) (1 : Int32) (1 : Int32)
    rw [hB_6] at kc_6; dsimp only at kc_6
    refine KC.calli (ci := 3) (rest := [.int (7 : Int32), .ref (o 1)]) (wt := wP cI o f_6 a) (kc_6) (cwV 4 hts gX3_calculate_X3_add rfl rfl rfl (by decide +kernel) ⟨Nat.le_of_ble_eq_true rfl, Nat.le_of_ble_eq_true rfl⟩) ⟨hx, hb, hml, hown, hts⟩ hK hP hD hS hA rfl rfl rfl [0, 1, 2, 3, 4, 5, 6, 7, 8] [] [0, 1, 2, 3, 4, 5, 6, 7, 8] (by decide) rfl (wr := []) rfl (by decide) (by decide) (by decide) rfl rfl hl.1 rfl (Nat.le_of_ble_eq_true rfl) dX3_calculate_116 ⟨Nat.zero_le _, Nat.zero_le _⟩ (fun H locs hP hD hS => ?_)
    refine pu_P_a2 hx hb hK hP hD hS (by unfold vp_in; decide) dX3_calculate_119 (fun H locs hP hD hS => ?_)
    refine lv_goto (tgt := 201) hx hb dX3_calculate_120 (by decide) ?_
    have hF : xCalculate f a p1 p2 = (f_6, ua a 2 (upd (a 2) (7 : Int32).toNatClampNeg r_6)) := by
      unfold xCalculate
      refine (if_neg c_1).trans ?_
      refine (if_neg c_3).trans ?_
      refine (if_pos c_5).trans ?_
      rewrite [hB_6]
      rfl
    rw [hF]
    exact KC.retv hx hb hr hlocks hK hP hD hS dX3_calculate_201
  by_cases c_7 : p1 &&& (7 : Int32) = (3 : Int32)
  · refine k_tin (tgt := 123) hx hb (3 : Int32) c_7 dX3_calculate_20 (by decide) (by decide) rfl (by decide) ?_
    refine lv_aload_n hx hb dX3_calculate_123 rfl (lv_at hl 2 rfl) ?_
    refine va_get (ci := 3) (v := .ref (o 1)) (C := RX3) (T := TX3) (N := 9) hx hb hts hi3 hown hK hP 0 rfl rfl 2 (by decide) (hts (.fieldLink RX3 9 "InvaderBoard$Processor" "registers" "[I") (List.mem_cons_of_mem _ (List.mem_append_left _ (List.mem_of_getElem? (i := 0) rfl)))) (fun _ h9 => h9) rfl dX3_calculate_124 ?_
    refine lv_bipush (v := 7) hx hb dX3_calculate_127 (by decide) ?_
    refine lv_aload_n hx hb dX3_calculate_129 rfl (lv_at hl 2 rfl) ?_
    refine lv_iload_n hx hb dX3_calculate_130 rfl (lv_at hl 1 rfl) ?_
    refine lv_iload_n hx hb dX3_calculate_131 rfl (lv_at hl 4 rfl) ?_
    refine lv_sipush (v := 255) hx hb dX3_calculate_132 (by decide) ?_
    refine lv_ixor hx hb dX3_calculate_135 ?_
    refine lv_iconst (v := 1) hx hb dX3_calculate_136 (by decide) ?_
    refine lv_iload hx hb dX3_calculate_137 (lv_at hl 0 rfl) ?_
    refine lv_isub hx hb dX3_calculate_139 ?_
    refine lv_iconst (v := 1) hx hb dX3_calculate_140 (by decide) ?_
    obtain ⟨r_8, f_8, hB_8⟩ := k_ex2 (xAdd f a ((a 2) (7 : Int32).toNatClampNeg) (p2 ^^^ (255 : Int32)) ((1 : Int32) - ((f 11) &&& (1 : Int32))) (1 : Int32))
    have kc_8 := kX3_add l D cI o f a ((a 2) (7 : Int32).toNatClampNeg) (p2 ^^^ (255 : Int32)) ((1 : Int32) - ((f 11) &&& (1 : Int32))) (1 : Int32)
    rw [hB_8] at kc_8; dsimp only at kc_8
    refine KC.calli (ci := 3) (rest := [.int (7 : Int32), .ref (o 1)]) (wt := wP cI o f_8 a) (kc_8) (cwV 4 hts gX3_calculate_X3_add rfl rfl rfl (by decide +kernel) ⟨Nat.le_of_ble_eq_true rfl, Nat.le_of_ble_eq_true rfl⟩) ⟨hx, hb, hml, hown, hts⟩ hK hP hD hS hA rfl rfl rfl [0, 1, 2, 3, 4, 5, 6, 7, 8] [] [0, 1, 2, 3, 4, 5, 6, 7, 8] (by decide) rfl (wr := []) rfl (by decide) (by decide) (by decide) rfl rfl hl.1 rfl (Nat.le_of_ble_eq_true rfl) dX3_calculate_141 ⟨Nat.zero_le _, Nat.zero_le _⟩ (fun H locs hP hD hS => ?_)
    refine pu_P_a2 hx hb hK hP hD hS (by unfold vp_in; decide) dX3_calculate_144 (fun H locs hP hD hS => ?_)
    refine lv_goto (tgt := 201) hx hb dX3_calculate_145 (by decide) ?_
    have hF : xCalculate f a p1 p2 = (f_8, ua a 2 (upd (a 2) (7 : Int32).toNatClampNeg r_8)) := by
      unfold xCalculate
      refine (if_neg c_1).trans ?_
      refine (if_neg c_3).trans ?_
      refine (if_neg c_5).trans ?_
      refine (if_pos c_7).trans ?_
      rewrite [hB_8]
      rfl
    rw [hF]
    exact KC.retv hx hb hr hlocks hK hP hD hS dX3_calculate_201
  by_cases c_9 : p1 &&& (7 : Int32) = (4 : Int32)
  · refine k_tin (tgt := 148) hx hb (4 : Int32) c_9 dX3_calculate_20 (by decide) (by decide) rfl (by decide) ?_
    refine lv_aload_n hx hb dX3_calculate_148 rfl (lv_at hl 2 rfl) ?_
    refine lv_iload_n hx hb dX3_calculate_149 rfl (lv_at hl 1 rfl) ?_
    refine lv_iload_n hx hb dX3_calculate_150 rfl (lv_at hl 4 rfl) ?_
    refine lv_iand hx hb dX3_calculate_151 ?_
    refine lv_iload_n hx hb dX3_calculate_152 rfl (lv_at hl 1 rfl) ?_
    refine lv_iload_n hx hb dX3_calculate_153 rfl (lv_at hl 4 rfl) ?_
    refine lv_ior hx hb dX3_calculate_154 ?_
    refine lv_iconst (v := 1) hx hb dX3_calculate_155 (by decide) ?_
    refine lv_ishl hx hb dX3_calculate_156 ?_
    refine lv_bipush (v := 16) hx hb dX3_calculate_157 (by decide) ?_
    refine lv_iand hx hb dX3_calculate_159 ?_
    obtain ⟨f_10, a_10, hB_10⟩ := k_ex2 (xSetLogical f a (((a 2) (7 : Int32).toNatClampNeg) &&& p2) (((((a 2) (7 : Int32).toNatClampNeg) ||| p2) <<< ((1 : Int32) &&& 31)) &&& (16 : Int32)))
    have kc_10 := kX3_setLogical l D cI o f a (((a 2) (7 : Int32).toNatClampNeg) &&& p2) (((((a 2) (7 : Int32).toNatClampNeg) ||| p2) <<< ((1 : Int32) &&& 31)) &&& (16 : Int32))
    rw [hB_10] at kc_10; dsimp only at kc_10
    refine KC.callv (ci := 3) (rest := []) (wt := wP cI o f_10 a_10) (kc_10) (cwV 2 hts gX3_calculate_X3_setLogical rfl rfl rfl (by decide +kernel) ⟨Nat.le_of_ble_eq_true rfl, Nat.le_of_ble_eq_true rfl⟩) ⟨hx, hb, hml, hown, hts⟩ hK hP hD hS hA rfl rfl rfl [0, 1, 2, 3, 4, 5, 6, 7, 8] [] [0, 1, 2, 3, 4, 5, 6, 7, 8] (by decide) rfl (wr := []) rfl (by decide) (by decide) (by decide) rfl rfl hl.1 rfl (Nat.le_of_ble_eq_true rfl) dX3_calculate_160 ⟨Nat.zero_le _, Nat.zero_le _⟩ (fun H locs hP hD hS => ?_)
    refine lv_goto (tgt := 201) hx hb dX3_calculate_163 (by decide) ?_
    have hF : xCalculate f a p1 p2 = (f_10, a_10) := by
      unfold xCalculate
      refine (if_neg c_1).trans ?_
      refine (if_neg c_3).trans ?_
      refine (if_neg c_5).trans ?_
      refine (if_neg c_7).trans ?_
      refine (if_pos c_9).trans ?_
      rewrite [hB_10]
      rfl
    rw [hF]
    exact KC.retv hx hb hr hlocks hK hP hD hS dX3_calculate_201
  by_cases c_11 : p1 &&& (7 : Int32) = (5 : Int32)
  · refine k_tin (tgt := 166) hx hb (5 : Int32) c_11 dX3_calculate_20 (by decide) (by decide) rfl (by decide) ?_
    refine lv_aload_n hx hb dX3_calculate_166 rfl (lv_at hl 2 rfl) ?_
    refine lv_iload_n hx hb dX3_calculate_167 rfl (lv_at hl 1 rfl) ?_
    refine lv_iload_n hx hb dX3_calculate_168 rfl (lv_at hl 4 rfl) ?_
    refine lv_ixor hx hb dX3_calculate_169 ?_
    refine lv_iconst (v := 0) hx hb dX3_calculate_170 (by decide) ?_
    obtain ⟨f_12, a_12, hB_12⟩ := k_ex2 (xSetLogical f a (((a 2) (7 : Int32).toNatClampNeg) ^^^ p2) (0 : Int32))
    have kc_12 := kX3_setLogical l D cI o f a (((a 2) (7 : Int32).toNatClampNeg) ^^^ p2) (0 : Int32)
    rw [hB_12] at kc_12; dsimp only at kc_12
    refine KC.callv (ci := 3) (rest := []) (wt := wP cI o f_12 a_12) (kc_12) (cwV 2 hts gX3_calculate_X3_setLogical rfl rfl rfl (by decide +kernel) ⟨Nat.le_of_ble_eq_true rfl, Nat.le_of_ble_eq_true rfl⟩) ⟨hx, hb, hml, hown, hts⟩ hK hP hD hS hA rfl rfl rfl [0, 1, 2, 3, 4, 5, 6, 7, 8] [] [0, 1, 2, 3, 4, 5, 6, 7, 8] (by decide) rfl (wr := []) rfl (by decide) (by decide) (by decide) rfl rfl hl.1 rfl (Nat.le_of_ble_eq_true rfl) dX3_calculate_171 ⟨Nat.zero_le _, Nat.zero_le _⟩ (fun H locs hP hD hS => ?_)
    refine lv_goto (tgt := 201) hx hb dX3_calculate_174 (by decide) ?_
    have hF : xCalculate f a p1 p2 = (f_12, a_12) := by
      unfold xCalculate
      refine (if_neg c_1).trans ?_
      refine (if_neg c_3).trans ?_
      refine (if_neg c_5).trans ?_
      refine (if_neg c_7).trans ?_
      refine (if_neg c_9).trans ?_
      refine (if_pos c_11).trans ?_
      rewrite [hB_12]
      rfl
    rw [hF]
    exact KC.retv hx hb hr hlocks hK hP hD hS dX3_calculate_201
  by_cases c_13 : p1 &&& (7 : Int32) = (6 : Int32)
  · refine k_tin (tgt := 177) hx hb (6 : Int32) c_13 dX3_calculate_20 (by decide) (by decide) rfl (by decide) ?_
    refine lv_aload_n hx hb dX3_calculate_177 rfl (lv_at hl 2 rfl) ?_
    refine lv_iload_n hx hb dX3_calculate_178 rfl (lv_at hl 1 rfl) ?_
    refine lv_iload_n hx hb dX3_calculate_179 rfl (lv_at hl 4 rfl) ?_
    refine lv_ior hx hb dX3_calculate_180 ?_
    refine lv_iconst (v := 0) hx hb dX3_calculate_181 (by decide) ?_
    obtain ⟨f_14, a_14, hB_14⟩ := k_ex2 (xSetLogical f a (((a 2) (7 : Int32).toNatClampNeg) ||| p2) (0 : Int32))
    have kc_14 := kX3_setLogical l D cI o f a (((a 2) (7 : Int32).toNatClampNeg) ||| p2) (0 : Int32)
    rw [hB_14] at kc_14; dsimp only at kc_14
    refine KC.callv (ci := 3) (rest := []) (wt := wP cI o f_14 a_14) (kc_14) (cwV 2 hts gX3_calculate_X3_setLogical rfl rfl rfl (by decide +kernel) ⟨Nat.le_of_ble_eq_true rfl, Nat.le_of_ble_eq_true rfl⟩) ⟨hx, hb, hml, hown, hts⟩ hK hP hD hS hA rfl rfl rfl [0, 1, 2, 3, 4, 5, 6, 7, 8] [] [0, 1, 2, 3, 4, 5, 6, 7, 8] (by decide) rfl (wr := []) rfl (by decide) (by decide) (by decide) rfl rfl hl.1 rfl (Nat.le_of_ble_eq_true rfl) dX3_calculate_182 ⟨Nat.zero_le _, Nat.zero_le _⟩ (fun H locs hP hD hS => ?_)
    refine lv_goto (tgt := 201) hx hb dX3_calculate_185 (by decide) ?_
    have hF : xCalculate f a p1 p2 = (f_14, a_14) := by
      unfold xCalculate
      refine (if_neg c_1).trans ?_
      refine (if_neg c_3).trans ?_
      refine (if_neg c_5).trans ?_
      refine (if_neg c_7).trans ?_
      refine (if_neg c_9).trans ?_
      refine (if_neg c_11).trans ?_
      refine (if_pos c_13).trans ?_
      rewrite [hB_14]
      rfl
    rw [hF]
    exact KC.retv hx hb hr hlocks hK hP hD hS dX3_calculate_201
  refine lv_tableOut (tgt := 188) hx hb dX3_calculate_20 (by have := lv_neT c_1 (k := (0 : Int32)) (a := 0) (by decide); have := lv_neT c_3 (k := (1 : Int32)) (a := 1) (by decide); have := lv_neT c_5 (k := (2 : Int32)) (a := 2) (by decide); have := lv_neT c_7 (k := (3 : Int32)) (a := 3) (by decide); have := lv_neT c_9 (k := (4 : Int32)) (a := 4) (by decide); have := lv_neT c_11 (k := (5 : Int32)) (a := 5) (by decide); have := lv_neT c_13 (k := (6 : Int32)) (a := 6) (by decide); omega) (by decide) ?_
  refine lv_aload_n hx hb dX3_calculate_188 rfl (lv_at hl 2 rfl) ?_
  refine lv_iload_n hx hb dX3_calculate_189 rfl (lv_at hl 1 rfl) ?_
  refine lv_iload_n hx hb dX3_calculate_190 rfl (lv_at hl 4 rfl) ?_
  refine lv_sipush (v := 255) hx hb dX3_calculate_191 (by decide) ?_
  refine lv_ixor hx hb dX3_calculate_194 ?_
  refine lv_iconst (v := 1) hx hb dX3_calculate_195 (by decide) ?_
  refine lv_iconst (v := 1) hx hb dX3_calculate_196 (by decide) ?_
  obtain ⟨r_15, f_15, hB_15⟩ := k_ex2 (xAdd f a ((a 2) (7 : Int32).toNatClampNeg) (p2 ^^^ (255 : Int32)) (1 : Int32) (1 : Int32))
  have kc_15 := kX3_add l D cI o f a ((a 2) (7 : Int32).toNatClampNeg) (p2 ^^^ (255 : Int32)) (1 : Int32) (1 : Int32)
  rw [hB_15] at kc_15; dsimp only at kc_15
  refine KC.calli (ci := 3) (rest := []) (wt := wP cI o f_15 a) (kc_15) (cwV 4 hts gX3_calculate_X3_add rfl rfl rfl (by decide +kernel) ⟨Nat.le_of_ble_eq_true rfl, Nat.le_of_ble_eq_true rfl⟩) ⟨hx, hb, hml, hown, hts⟩ hK hP hD hS hA rfl rfl rfl [0, 1, 2, 3, 4, 5, 6, 7, 8] [] [0, 1, 2, 3, 4, 5, 6, 7, 8] (by decide) rfl (wr := []) rfl (by decide) (by decide) (by decide) rfl rfl hl.1 rfl (Nat.le_of_ble_eq_true rfl) dX3_calculate_197 ⟨Nat.zero_le _, Nat.zero_le _⟩ (fun H locs hP hD hS => ?_)
  refine lv_pop hx hb dX3_calculate_200 rfl ?_
  have hF : xCalculate f a p1 p2 = (f_15, a) := by
    unfold xCalculate
    refine (if_neg c_1).trans ?_
    refine (if_neg c_3).trans ?_
    refine (if_neg c_5).trans ?_
    refine (if_neg c_7).trans ?_
    refine (if_neg c_9).trans ?_
    refine (if_neg c_11).trans ?_
    refine (if_neg c_13).trans ?_
    rewrite [hB_15]
    rfl
  rw [hF]
  exact KC.retv hx hb hr hlocks hK hP hD hS dX3_calculate_201
def xHolds (f : Nat → Int32) (a : Nat → Nat → Int32) (p1 : Int32) : Int32 :=
  if p1 >>> ((1 : Int32) &&& 31) = (0 : Int32) then if p1 &&& (1 : Int32) = 0 then if (f 11) &&& (64 : Int32) = 0 then (1 : Int32)
      else (0 : Int32)
    else if (f 11) &&& (64 : Int32) = 0 then (0 : Int32)
      else (1 : Int32)
  else if p1 >>> ((1 : Int32) &&& 31) = (1 : Int32) then if p1 &&& (1 : Int32) = 0 then if (f 11) &&& (1 : Int32) = 0 then (1 : Int32)
        else (0 : Int32)
      else if (f 11) &&& (1 : Int32) = 0 then (0 : Int32)
        else (1 : Int32)
    else if p1 >>> ((1 : Int32) &&& 31) = (2 : Int32) then if p1 &&& (1 : Int32) = 0 then if (f 11) &&& (4 : Int32) = 0 then (1 : Int32)
          else (0 : Int32)
        else if (f 11) &&& (4 : Int32) = 0 then (0 : Int32)
          else (1 : Int32)
      else if p1 &&& (1 : Int32) = 0 then if (f 11) &&& (128 : Int32) = 0 then (1 : Int32)
          else (0 : Int32)
        else if (f 11) &&& (128 : Int32) = 0 then (0 : Int32)
          else (1 : Int32)
set_option maxHeartbeats 4000000 in
set_option maxRecDepth 100000 in
theorem kX3_holds (l : Launch) (D : va_G) (cI : ClassId) (o : Nat → Nat) (f : Nat → Int32) (a : Nat → Nat → Int32) (p1 : Int32) : KC l yX3_holds wsX3_holds 0 [.ref (o 0), .int p1] D cI (wP cI o f a) (wP cI o f a) (some (.int (xHolds f a p1))) := by
  refine KC.of (cc := cX3_holds) (maxL := 4) (by decide) rfl (Nat.le_of_ble_eq_true rfl) ?_
  intro p e s m below meth c A hx hb hr hts hown hlocks hml hK hP hD hS hA ls hl
  have hl : lv_has ls 4 [(0, .ref (o 0)), (1, .int p1)] := hl
  have hown : s.vm.findClass RX3 = some m.cls := hown
  have hi3 : ∀ w ∈ u_ws RX3 TX3 9, w ∈ wsX3_holds := fun w h => List.mem_cons_of_mem _ (List.mem_append_right _ h)
  refine lv_iload_n hx hb dX3_holds_0 rfl (lv_at hl 1 rfl) ?_
  refine lv_iconst (v := 1) hx hb dX3_holds_1 (by decide) ?_
  refine lv_ishr hx hb dX3_holds_2 ?_
  by_cases c_1 : p1 >>> ((1 : Int32) &&& 31) = (0 : Int32)
  · refine k_tin (tgt := 28) hx hb (0 : Int32) c_1 dX3_holds_3 (by decide) (by decide) rfl (by decide) ?_
    refine lv_bipush (v := 64) hx hb dX3_holds_28 (by decide) ?_
    refine lv_istore_n (lv' := [(2, .int _), (0, .ref _), (1, .int _)]) hx hb dX3_holds_30 rfl hl (by decide) rfl (fun ls hl => ?_)
    refine lv_goto (tgt := 48) hx hb dX3_holds_31 (by decide) ?_
    refine lv_iload_n hx hb dX3_holds_48 rfl (lv_at hl 2 rfl) ?_
    refine lv_iconst (v := 1) hx hb dX3_holds_49 (by decide) ?_
    refine lv_iand hx hb dX3_holds_50 ?_
    refine lv_if_eq (tgt := 58) hx hb dX3_holds_51 (by decide) (fun c_2 => ?_) (fun c_2 => ?_)
    · refine lv_iconst (v := 0) hx hb dX3_holds_58 (by decide) ?_
      refine lv_istore_n (lv' := [(3, .int _), (2, .int _), (0, .ref _), (1, .int _)]) hx hb dX3_holds_59 rfl hl (by decide) rfl (fun ls hl => ?_)
      refine lv_aload_n hx hb dX3_holds_60 rfl (lv_at hl 2 rfl) ?_
      refine va_get (ci := 3) (v := .int (f 11)) (C := RX3) (T := TX3) (N := 9) hx hb hts hi3 hown hK hP 0 rfl rfl 3 (by decide) (hts (.fieldLink RX3 13 "InvaderBoard$Processor" "flags" "I") (List.mem_cons_of_mem _ (List.mem_append_left _ (List.mem_of_getElem? (i := 0) rfl)))) (fun _ h9 => h9) rfl dX3_holds_61 ?_
      refine lv_iload_n hx hb dX3_holds_64 rfl (lv_at hl 1 rfl) ?_
      refine lv_iand hx hb dX3_holds_65 ?_
      refine lv_if_eq (tgt := 73) hx hb dX3_holds_66 (by decide) (fun c_3 => ?_) (fun c_3 => ?_)
      · refine lv_iconst (v := 0) hx hb dX3_holds_73 (by decide) ?_
        refine lv_iload_n hx hb dX3_holds_74 rfl (lv_at hl 0 rfl) ?_
        refine lv_icmp_ne (tgt := 82) hx hb dX3_holds_75 (by decide) (fun c_4 => ?_) (fun c_4 => ?_)
        · exact absurd c_4 (by decide)
        · refine lv_iconst (v := 1) hx hb dX3_holds_78 (by decide) ?_
          refine lv_goto (tgt := 83) hx hb dX3_holds_79 (by decide) ?_
          have hF : xHolds f a p1 = (1 : Int32) := by
            unfold xHolds
            refine (if_pos c_1).trans ?_
            refine (if_pos c_2).trans ?_
            refine (if_pos c_3).trans ?_
            rfl
          rw [hF]
          exact KC.retz hx hb hr hlocks hK hP hD hS dX3_holds_83 (by decide +kernel) rfl
      · refine lv_iconst (v := 1) hx hb dX3_holds_69 (by decide) ?_
        refine lv_goto (tgt := 74) hx hb dX3_holds_70 (by decide) ?_
        refine lv_iload_n hx hb dX3_holds_74 rfl (lv_at hl 0 rfl) ?_
        refine lv_icmp_ne (tgt := 82) hx hb dX3_holds_75 (by decide) (fun c_5 => ?_) (fun c_5 => ?_)
        · refine lv_iconst (v := 0) hx hb dX3_holds_82 (by decide) ?_
          have hF : xHolds f a p1 = (0 : Int32) := by
            unfold xHolds
            refine (if_pos c_1).trans ?_
            refine (if_pos c_2).trans ?_
            refine (if_neg c_3).trans ?_
            rfl
          rw [hF]
          exact KC.retz hx hb hr hlocks hK hP hD hS dX3_holds_83 (by decide +kernel) rfl
        · exact absurd c_5 (by decide)
    · refine lv_iconst (v := 1) hx hb dX3_holds_54 (by decide) ?_
      refine lv_goto (tgt := 59) hx hb dX3_holds_55 (by decide) ?_
      refine lv_istore_n (lv' := [(3, .int _), (2, .int _), (0, .ref _), (1, .int _)]) hx hb dX3_holds_59 rfl hl (by decide) rfl (fun ls hl => ?_)
      refine lv_aload_n hx hb dX3_holds_60 rfl (lv_at hl 2 rfl) ?_
      refine va_get (ci := 3) (v := .int (f 11)) (C := RX3) (T := TX3) (N := 9) hx hb hts hi3 hown hK hP 0 rfl rfl 3 (by decide) (hts (.fieldLink RX3 13 "InvaderBoard$Processor" "flags" "I") (List.mem_cons_of_mem _ (List.mem_append_left _ (List.mem_of_getElem? (i := 0) rfl)))) (fun _ h9 => h9) rfl dX3_holds_61 ?_
      refine lv_iload_n hx hb dX3_holds_64 rfl (lv_at hl 1 rfl) ?_
      refine lv_iand hx hb dX3_holds_65 ?_
      refine lv_if_eq (tgt := 73) hx hb dX3_holds_66 (by decide) (fun c_6 => ?_) (fun c_6 => ?_)
      · refine lv_iconst (v := 0) hx hb dX3_holds_73 (by decide) ?_
        refine lv_iload_n hx hb dX3_holds_74 rfl (lv_at hl 0 rfl) ?_
        refine lv_icmp_ne (tgt := 82) hx hb dX3_holds_75 (by decide) (fun c_7 => ?_) (fun c_7 => ?_)
        · refine lv_iconst (v := 0) hx hb dX3_holds_82 (by decide) ?_
          have hF : xHolds f a p1 = (0 : Int32) := by
            unfold xHolds
            refine (if_pos c_1).trans ?_
            refine (if_neg c_2).trans ?_
            refine (if_pos c_6).trans ?_
            rfl
          rw [hF]
          exact KC.retz hx hb hr hlocks hK hP hD hS dX3_holds_83 (by decide +kernel) rfl
        · exact absurd c_7 (by decide)
      · refine lv_iconst (v := 1) hx hb dX3_holds_69 (by decide) ?_
        refine lv_goto (tgt := 74) hx hb dX3_holds_70 (by decide) ?_
        refine lv_iload_n hx hb dX3_holds_74 rfl (lv_at hl 0 rfl) ?_
        refine lv_icmp_ne (tgt := 82) hx hb dX3_holds_75 (by decide) (fun c_8 => ?_) (fun c_8 => ?_)
        · exact absurd c_8 (by decide)
        · refine lv_iconst (v := 1) hx hb dX3_holds_78 (by decide) ?_
          refine lv_goto (tgt := 83) hx hb dX3_holds_79 (by decide) ?_
          have hF : xHolds f a p1 = (1 : Int32) := by
            unfold xHolds
            refine (if_pos c_1).trans ?_
            refine (if_neg c_2).trans ?_
            refine (if_neg c_6).trans ?_
            rfl
          rw [hF]
          exact KC.retz hx hb hr hlocks hK hP hD hS dX3_holds_83 (by decide +kernel) rfl
  by_cases c_9 : p1 >>> ((1 : Int32) &&& 31) = (1 : Int32)
  · refine k_tin (tgt := 34) hx hb (1 : Int32) c_9 dX3_holds_3 (by decide) (by decide) rfl (by decide) ?_
    refine lv_iconst (v := 1) hx hb dX3_holds_34 (by decide) ?_
    refine lv_istore_n (lv' := [(2, .int _), (0, .ref _), (1, .int _)]) hx hb dX3_holds_35 rfl hl (by decide) rfl (fun ls hl => ?_)
    refine lv_goto (tgt := 48) hx hb dX3_holds_36 (by decide) ?_
    refine lv_iload_n hx hb dX3_holds_48 rfl (lv_at hl 2 rfl) ?_
    refine lv_iconst (v := 1) hx hb dX3_holds_49 (by decide) ?_
    refine lv_iand hx hb dX3_holds_50 ?_
    refine lv_if_eq (tgt := 58) hx hb dX3_holds_51 (by decide) (fun c_10 => ?_) (fun c_10 => ?_)
    · refine lv_iconst (v := 0) hx hb dX3_holds_58 (by decide) ?_
      refine lv_istore_n (lv' := [(3, .int _), (2, .int _), (0, .ref _), (1, .int _)]) hx hb dX3_holds_59 rfl hl (by decide) rfl (fun ls hl => ?_)
      refine lv_aload_n hx hb dX3_holds_60 rfl (lv_at hl 2 rfl) ?_
      refine va_get (ci := 3) (v := .int (f 11)) (C := RX3) (T := TX3) (N := 9) hx hb hts hi3 hown hK hP 0 rfl rfl 3 (by decide) (hts (.fieldLink RX3 13 "InvaderBoard$Processor" "flags" "I") (List.mem_cons_of_mem _ (List.mem_append_left _ (List.mem_of_getElem? (i := 0) rfl)))) (fun _ h9 => h9) rfl dX3_holds_61 ?_
      refine lv_iload_n hx hb dX3_holds_64 rfl (lv_at hl 1 rfl) ?_
      refine lv_iand hx hb dX3_holds_65 ?_
      refine lv_if_eq (tgt := 73) hx hb dX3_holds_66 (by decide) (fun c_11 => ?_) (fun c_11 => ?_)
      · refine lv_iconst (v := 0) hx hb dX3_holds_73 (by decide) ?_
        refine lv_iload_n hx hb dX3_holds_74 rfl (lv_at hl 0 rfl) ?_
        refine lv_icmp_ne (tgt := 82) hx hb dX3_holds_75 (by decide) (fun c_12 => ?_) (fun c_12 => ?_)
        · exact absurd c_12 (by decide)
        · refine lv_iconst (v := 1) hx hb dX3_holds_78 (by decide) ?_
          refine lv_goto (tgt := 83) hx hb dX3_holds_79 (by decide) ?_
          have hF : xHolds f a p1 = (1 : Int32) := by
            unfold xHolds
            refine (if_neg c_1).trans ?_
            refine (if_pos c_9).trans ?_
            refine (if_pos c_10).trans ?_
            refine (if_pos c_11).trans ?_
            rfl
          rw [hF]
          exact KC.retz hx hb hr hlocks hK hP hD hS dX3_holds_83 (by decide +kernel) rfl
      · refine lv_iconst (v := 1) hx hb dX3_holds_69 (by decide) ?_
        refine lv_goto (tgt := 74) hx hb dX3_holds_70 (by decide) ?_
        refine lv_iload_n hx hb dX3_holds_74 rfl (lv_at hl 0 rfl) ?_
        refine lv_icmp_ne (tgt := 82) hx hb dX3_holds_75 (by decide) (fun c_13 => ?_) (fun c_13 => ?_)
        · refine lv_iconst (v := 0) hx hb dX3_holds_82 (by decide) ?_
          have hF : xHolds f a p1 = (0 : Int32) := by
            unfold xHolds
            refine (if_neg c_1).trans ?_
            refine (if_pos c_9).trans ?_
            refine (if_pos c_10).trans ?_
            refine (if_neg c_11).trans ?_
            rfl
          rw [hF]
          exact KC.retz hx hb hr hlocks hK hP hD hS dX3_holds_83 (by decide +kernel) rfl
        · exact absurd c_13 (by decide)
    · refine lv_iconst (v := 1) hx hb dX3_holds_54 (by decide) ?_
      refine lv_goto (tgt := 59) hx hb dX3_holds_55 (by decide) ?_
      refine lv_istore_n (lv' := [(3, .int _), (2, .int _), (0, .ref _), (1, .int _)]) hx hb dX3_holds_59 rfl hl (by decide) rfl (fun ls hl => ?_)
      refine lv_aload_n hx hb dX3_holds_60 rfl (lv_at hl 2 rfl) ?_
      refine va_get (ci := 3) (v := .int (f 11)) (C := RX3) (T := TX3) (N := 9) hx hb hts hi3 hown hK hP 0 rfl rfl 3 (by decide) (hts (.fieldLink RX3 13 "InvaderBoard$Processor" "flags" "I") (List.mem_cons_of_mem _ (List.mem_append_left _ (List.mem_of_getElem? (i := 0) rfl)))) (fun _ h9 => h9) rfl dX3_holds_61 ?_
      refine lv_iload_n hx hb dX3_holds_64 rfl (lv_at hl 1 rfl) ?_
      refine lv_iand hx hb dX3_holds_65 ?_
      refine lv_if_eq (tgt := 73) hx hb dX3_holds_66 (by decide) (fun c_14 => ?_) (fun c_14 => ?_)
      · refine lv_iconst (v := 0) hx hb dX3_holds_73 (by decide) ?_
        refine lv_iload_n hx hb dX3_holds_74 rfl (lv_at hl 0 rfl) ?_
        refine lv_icmp_ne (tgt := 82) hx hb dX3_holds_75 (by decide) (fun c_15 => ?_) (fun c_15 => ?_)
        · refine lv_iconst (v := 0) hx hb dX3_holds_82 (by decide) ?_
          have hF : xHolds f a p1 = (0 : Int32) := by
            unfold xHolds
            refine (if_neg c_1).trans ?_
            refine (if_pos c_9).trans ?_
            refine (if_neg c_10).trans ?_
            refine (if_pos c_14).trans ?_
            rfl
          rw [hF]
          exact KC.retz hx hb hr hlocks hK hP hD hS dX3_holds_83 (by decide +kernel) rfl
        · exact absurd c_15 (by decide)
      · refine lv_iconst (v := 1) hx hb dX3_holds_69 (by decide) ?_
        refine lv_goto (tgt := 74) hx hb dX3_holds_70 (by decide) ?_
        refine lv_iload_n hx hb dX3_holds_74 rfl (lv_at hl 0 rfl) ?_
        refine lv_icmp_ne (tgt := 82) hx hb dX3_holds_75 (by decide) (fun c_16 => ?_) (fun c_16 => ?_)
        · exact absurd c_16 (by decide)
        · refine lv_iconst (v := 1) hx hb dX3_holds_78 (by decide) ?_
          refine lv_goto (tgt := 83) hx hb dX3_holds_79 (by decide) ?_
          have hF : xHolds f a p1 = (1 : Int32) := by
            unfold xHolds
            refine (if_neg c_1).trans ?_
            refine (if_pos c_9).trans ?_
            refine (if_neg c_10).trans ?_
            refine (if_neg c_14).trans ?_
            rfl
          rw [hF]
          exact KC.retz hx hb hr hlocks hK hP hD hS dX3_holds_83 (by decide +kernel) rfl
  by_cases c_17 : p1 >>> ((1 : Int32) &&& 31) = (2 : Int32)
  · refine k_tin (tgt := 39) hx hb (2 : Int32) c_17 dX3_holds_3 (by decide) (by decide) rfl (by decide) ?_
    refine lv_iconst (v := 4) hx hb dX3_holds_39 (by decide) ?_
    refine lv_istore_n (lv' := [(2, .int _), (0, .ref _), (1, .int _)]) hx hb dX3_holds_40 rfl hl (by decide) rfl (fun ls hl => ?_)
    refine lv_goto (tgt := 48) hx hb dX3_holds_41 (by decide) ?_
    refine lv_iload_n hx hb dX3_holds_48 rfl (lv_at hl 2 rfl) ?_
    refine lv_iconst (v := 1) hx hb dX3_holds_49 (by decide) ?_
    refine lv_iand hx hb dX3_holds_50 ?_
    refine lv_if_eq (tgt := 58) hx hb dX3_holds_51 (by decide) (fun c_18 => ?_) (fun c_18 => ?_)
    · refine lv_iconst (v := 0) hx hb dX3_holds_58 (by decide) ?_
      refine lv_istore_n (lv' := [(3, .int _), (2, .int _), (0, .ref _), (1, .int _)]) hx hb dX3_holds_59 rfl hl (by decide) rfl (fun ls hl => ?_)
      refine lv_aload_n hx hb dX3_holds_60 rfl (lv_at hl 2 rfl) ?_
      refine va_get (ci := 3) (v := .int (f 11)) (C := RX3) (T := TX3) (N := 9) hx hb hts hi3 hown hK hP 0 rfl rfl 3 (by decide) (hts (.fieldLink RX3 13 "InvaderBoard$Processor" "flags" "I") (List.mem_cons_of_mem _ (List.mem_append_left _ (List.mem_of_getElem? (i := 0) rfl)))) (fun _ h9 => h9) rfl dX3_holds_61 ?_
      refine lv_iload_n hx hb dX3_holds_64 rfl (lv_at hl 1 rfl) ?_
      refine lv_iand hx hb dX3_holds_65 ?_
      refine lv_if_eq (tgt := 73) hx hb dX3_holds_66 (by decide) (fun c_19 => ?_) (fun c_19 => ?_)
      · refine lv_iconst (v := 0) hx hb dX3_holds_73 (by decide) ?_
        refine lv_iload_n hx hb dX3_holds_74 rfl (lv_at hl 0 rfl) ?_
        refine lv_icmp_ne (tgt := 82) hx hb dX3_holds_75 (by decide) (fun c_20 => ?_) (fun c_20 => ?_)
        · exact absurd c_20 (by decide)
        · refine lv_iconst (v := 1) hx hb dX3_holds_78 (by decide) ?_
          refine lv_goto (tgt := 83) hx hb dX3_holds_79 (by decide) ?_
          have hF : xHolds f a p1 = (1 : Int32) := by
            unfold xHolds
            refine (if_neg c_1).trans ?_
            refine (if_neg c_9).trans ?_
            refine (if_pos c_17).trans ?_
            refine (if_pos c_18).trans ?_
            refine (if_pos c_19).trans ?_
            rfl
          rw [hF]
          exact KC.retz hx hb hr hlocks hK hP hD hS dX3_holds_83 (by decide +kernel) rfl
      · refine lv_iconst (v := 1) hx hb dX3_holds_69 (by decide) ?_
        refine lv_goto (tgt := 74) hx hb dX3_holds_70 (by decide) ?_
        refine lv_iload_n hx hb dX3_holds_74 rfl (lv_at hl 0 rfl) ?_
        refine lv_icmp_ne (tgt := 82) hx hb dX3_holds_75 (by decide) (fun c_21 => ?_) (fun c_21 => ?_)
        · refine lv_iconst (v := 0) hx hb dX3_holds_82 (by decide) ?_
          have hF : xHolds f a p1 = (0 : Int32) := by
            unfold xHolds
            refine (if_neg c_1).trans ?_
            refine (if_neg c_9).trans ?_
            refine (if_pos c_17).trans ?_
            refine (if_pos c_18).trans ?_
            refine (if_neg c_19).trans ?_
            rfl
          rw [hF]
          exact KC.retz hx hb hr hlocks hK hP hD hS dX3_holds_83 (by decide +kernel) rfl
        · exact absurd c_21 (by decide)
    · refine lv_iconst (v := 1) hx hb dX3_holds_54 (by decide) ?_
      refine lv_goto (tgt := 59) hx hb dX3_holds_55 (by decide) ?_
      refine lv_istore_n (lv' := [(3, .int _), (2, .int _), (0, .ref _), (1, .int _)]) hx hb dX3_holds_59 rfl hl (by decide) rfl (fun ls hl => ?_)
      refine lv_aload_n hx hb dX3_holds_60 rfl (lv_at hl 2 rfl) ?_
      refine va_get (ci := 3) (v := .int (f 11)) (C := RX3) (T := TX3) (N := 9) hx hb hts hi3 hown hK hP 0 rfl rfl 3 (by decide) (hts (.fieldLink RX3 13 "InvaderBoard$Processor" "flags" "I") (List.mem_cons_of_mem _ (List.mem_append_left _ (List.mem_of_getElem? (i := 0) rfl)))) (fun _ h9 => h9) rfl dX3_holds_61 ?_
      refine lv_iload_n hx hb dX3_holds_64 rfl (lv_at hl 1 rfl) ?_
      refine lv_iand hx hb dX3_holds_65 ?_
      refine lv_if_eq (tgt := 73) hx hb dX3_holds_66 (by decide) (fun c_22 => ?_) (fun c_22 => ?_)
      · refine lv_iconst (v := 0) hx hb dX3_holds_73 (by decide) ?_
        refine lv_iload_n hx hb dX3_holds_74 rfl (lv_at hl 0 rfl) ?_
        refine lv_icmp_ne (tgt := 82) hx hb dX3_holds_75 (by decide) (fun c_23 => ?_) (fun c_23 => ?_)
        · refine lv_iconst (v := 0) hx hb dX3_holds_82 (by decide) ?_
          have hF : xHolds f a p1 = (0 : Int32) := by
            unfold xHolds
            refine (if_neg c_1).trans ?_
            refine (if_neg c_9).trans ?_
            refine (if_pos c_17).trans ?_
            refine (if_neg c_18).trans ?_
            refine (if_pos c_22).trans ?_
            rfl
          rw [hF]
          exact KC.retz hx hb hr hlocks hK hP hD hS dX3_holds_83 (by decide +kernel) rfl
        · exact absurd c_23 (by decide)
      · refine lv_iconst (v := 1) hx hb dX3_holds_69 (by decide) ?_
        refine lv_goto (tgt := 74) hx hb dX3_holds_70 (by decide) ?_
        refine lv_iload_n hx hb dX3_holds_74 rfl (lv_at hl 0 rfl) ?_
        refine lv_icmp_ne (tgt := 82) hx hb dX3_holds_75 (by decide) (fun c_24 => ?_) (fun c_24 => ?_)
        · exact absurd c_24 (by decide)
        · refine lv_iconst (v := 1) hx hb dX3_holds_78 (by decide) ?_
          refine lv_goto (tgt := 83) hx hb dX3_holds_79 (by decide) ?_
          have hF : xHolds f a p1 = (1 : Int32) := by
            unfold xHolds
            refine (if_neg c_1).trans ?_
            refine (if_neg c_9).trans ?_
            refine (if_pos c_17).trans ?_
            refine (if_neg c_18).trans ?_
            refine (if_neg c_22).trans ?_
            rfl
          rw [hF]
          exact KC.retz hx hb hr hlocks hK hP hD hS dX3_holds_83 (by decide +kernel) rfl
  refine lv_tableOut (tgt := 44) hx hb dX3_holds_3 (by have := lv_neT c_1 (k := (0 : Int32)) (a := 0) (by decide); have := lv_neT c_9 (k := (1 : Int32)) (a := 1) (by decide); have := lv_neT c_17 (k := (2 : Int32)) (a := 2) (by decide); omega) (by decide) ?_
  refine lv_sipush (v := 128) hx hb dX3_holds_44 (by decide) ?_
  refine lv_istore_n (lv' := [(2, .int _), (0, .ref _), (1, .int _)]) hx hb dX3_holds_47 rfl hl (by decide) rfl (fun ls hl => ?_)
  refine lv_iload_n hx hb dX3_holds_48 rfl (lv_at hl 2 rfl) ?_
  refine lv_iconst (v := 1) hx hb dX3_holds_49 (by decide) ?_
  refine lv_iand hx hb dX3_holds_50 ?_
  refine lv_if_eq (tgt := 58) hx hb dX3_holds_51 (by decide) (fun c_25 => ?_) (fun c_25 => ?_)
  · refine lv_iconst (v := 0) hx hb dX3_holds_58 (by decide) ?_
    refine lv_istore_n (lv' := [(3, .int _), (2, .int _), (0, .ref _), (1, .int _)]) hx hb dX3_holds_59 rfl hl (by decide) rfl (fun ls hl => ?_)
    refine lv_aload_n hx hb dX3_holds_60 rfl (lv_at hl 2 rfl) ?_
    refine va_get (ci := 3) (v := .int (f 11)) (C := RX3) (T := TX3) (N := 9) hx hb hts hi3 hown hK hP 0 rfl rfl 3 (by decide) (hts (.fieldLink RX3 13 "InvaderBoard$Processor" "flags" "I") (List.mem_cons_of_mem _ (List.mem_append_left _ (List.mem_of_getElem? (i := 0) rfl)))) (fun _ h9 => h9) rfl dX3_holds_61 ?_
    refine lv_iload_n hx hb dX3_holds_64 rfl (lv_at hl 1 rfl) ?_
    refine lv_iand hx hb dX3_holds_65 ?_
    refine lv_if_eq (tgt := 73) hx hb dX3_holds_66 (by decide) (fun c_26 => ?_) (fun c_26 => ?_)
    · refine lv_iconst (v := 0) hx hb dX3_holds_73 (by decide) ?_
      refine lv_iload_n hx hb dX3_holds_74 rfl (lv_at hl 0 rfl) ?_
      refine lv_icmp_ne (tgt := 82) hx hb dX3_holds_75 (by decide) (fun c_27 => ?_) (fun c_27 => ?_)
      · exact absurd c_27 (by decide)
      · refine lv_iconst (v := 1) hx hb dX3_holds_78 (by decide) ?_
        refine lv_goto (tgt := 83) hx hb dX3_holds_79 (by decide) ?_
        have hF : xHolds f a p1 = (1 : Int32) := by
          unfold xHolds
          refine (if_neg c_1).trans ?_
          refine (if_neg c_9).trans ?_
          refine (if_neg c_17).trans ?_
          refine (if_pos c_25).trans ?_
          refine (if_pos c_26).trans ?_
          rfl
        rw [hF]
        exact KC.retz hx hb hr hlocks hK hP hD hS dX3_holds_83 (by decide +kernel) rfl
    · refine lv_iconst (v := 1) hx hb dX3_holds_69 (by decide) ?_
      refine lv_goto (tgt := 74) hx hb dX3_holds_70 (by decide) ?_
      refine lv_iload_n hx hb dX3_holds_74 rfl (lv_at hl 0 rfl) ?_
      refine lv_icmp_ne (tgt := 82) hx hb dX3_holds_75 (by decide) (fun c_28 => ?_) (fun c_28 => ?_)
      · refine lv_iconst (v := 0) hx hb dX3_holds_82 (by decide) ?_
        have hF : xHolds f a p1 = (0 : Int32) := by
          unfold xHolds
          refine (if_neg c_1).trans ?_
          refine (if_neg c_9).trans ?_
          refine (if_neg c_17).trans ?_
          refine (if_pos c_25).trans ?_
          refine (if_neg c_26).trans ?_
          rfl
        rw [hF]
        exact KC.retz hx hb hr hlocks hK hP hD hS dX3_holds_83 (by decide +kernel) rfl
      · exact absurd c_28 (by decide)
  · refine lv_iconst (v := 1) hx hb dX3_holds_54 (by decide) ?_
    refine lv_goto (tgt := 59) hx hb dX3_holds_55 (by decide) ?_
    refine lv_istore_n (lv' := [(3, .int _), (2, .int _), (0, .ref _), (1, .int _)]) hx hb dX3_holds_59 rfl hl (by decide) rfl (fun ls hl => ?_)
    refine lv_aload_n hx hb dX3_holds_60 rfl (lv_at hl 2 rfl) ?_
    refine va_get (ci := 3) (v := .int (f 11)) (C := RX3) (T := TX3) (N := 9) hx hb hts hi3 hown hK hP 0 rfl rfl 3 (by decide) (hts (.fieldLink RX3 13 "InvaderBoard$Processor" "flags" "I") (List.mem_cons_of_mem _ (List.mem_append_left _ (List.mem_of_getElem? (i := 0) rfl)))) (fun _ h9 => h9) rfl dX3_holds_61 ?_
    refine lv_iload_n hx hb dX3_holds_64 rfl (lv_at hl 1 rfl) ?_
    refine lv_iand hx hb dX3_holds_65 ?_
    refine lv_if_eq (tgt := 73) hx hb dX3_holds_66 (by decide) (fun c_29 => ?_) (fun c_29 => ?_)
    · refine lv_iconst (v := 0) hx hb dX3_holds_73 (by decide) ?_
      refine lv_iload_n hx hb dX3_holds_74 rfl (lv_at hl 0 rfl) ?_
      refine lv_icmp_ne (tgt := 82) hx hb dX3_holds_75 (by decide) (fun c_30 => ?_) (fun c_30 => ?_)
      · refine lv_iconst (v := 0) hx hb dX3_holds_82 (by decide) ?_
        have hF : xHolds f a p1 = (0 : Int32) := by
          unfold xHolds
          refine (if_neg c_1).trans ?_
          refine (if_neg c_9).trans ?_
          refine (if_neg c_17).trans ?_
          refine (if_neg c_25).trans ?_
          refine (if_pos c_29).trans ?_
          rfl
        rw [hF]
        exact KC.retz hx hb hr hlocks hK hP hD hS dX3_holds_83 (by decide +kernel) rfl
      · exact absurd c_30 (by decide)
    · refine lv_iconst (v := 1) hx hb dX3_holds_69 (by decide) ?_
      refine lv_goto (tgt := 74) hx hb dX3_holds_70 (by decide) ?_
      refine lv_iload_n hx hb dX3_holds_74 rfl (lv_at hl 0 rfl) ?_
      refine lv_icmp_ne (tgt := 82) hx hb dX3_holds_75 (by decide) (fun c_31 => ?_) (fun c_31 => ?_)
      · exact absurd c_31 (by decide)
      · refine lv_iconst (v := 1) hx hb dX3_holds_78 (by decide) ?_
        refine lv_goto (tgt := 83) hx hb dX3_holds_79 (by decide) ?_
        have hF : xHolds f a p1 = (1 : Int32) := by
          unfold xHolds
          refine (if_neg c_1).trans ?_
          refine (if_neg c_9).trans ?_
          refine (if_neg c_17).trans ?_
          refine (if_neg c_25).trans ?_
          refine (if_neg c_29).trans ?_
          rfl
        rw [hF]
        exact KC.retz hx hb hr hlocks hK hP hD hS dX3_holds_83 (by decide +kernel) rfl
def xReturnIf (f : Nat → Int32) (a : Nat → Nat → Int32) (p1 : Int32) : Int32 × (Nat → Int32) :=
  if p1 = 0 then ((0 : Int32), f)
  else (match xPop f a with
    | (r_2, f_2) => ((6 : Int32), upd f_2 1 r_2))
set_option maxHeartbeats 4000000 in
set_option maxRecDepth 100000 in
theorem kX3_returnIf (l : Launch) (D : va_G) (cI : ClassId) (o : Nat → Nat) (f : Nat → Int32) (a : Nat → Nat → Int32) (p1 : Int32) : KC l yX3_returnIf wsX3_returnIf 3 [.ref (o 0), .int p1] D cI (wP cI o f a) (wP cI o ((xReturnIf f a p1).2) a) (some (.int (xReturnIf f a p1).1)) := by
  refine KC.of (cc := cX3_returnIf) (maxL := 2) (by decide) rfl (Nat.le_of_ble_eq_true rfl) ?_
  intro p e s m below meth c A hx hb hr hts hown hlocks hml hK hP hD hS hA ls hl
  have hl : lv_has ls 2 [(0, .ref (o 0)), (1, .int p1)] := hl
  have hown : s.vm.findClass RX3 = some m.cls := hown
  have hi3 : ∀ w ∈ u_ws RX3 TX3 9, w ∈ wsX3_returnIf := fun w h => List.mem_cons_of_mem _ (List.mem_append_left _ (List.mem_append_right _ h))
  refine lv_iload_n hx hb dX3_returnIf_0 rfl (lv_at hl 1 rfl) ?_
  refine lv_if_ne (tgt := 6) hx hb dX3_returnIf_1 (by decide) (fun c_1 => ?_) (fun c_1 => ?_)
  · refine lv_aload_n hx hb dX3_returnIf_6 rfl (lv_at hl 0 rfl) ?_
    refine lv_aload_n hx hb dX3_returnIf_7 rfl (lv_at hl 0 rfl) ?_
    obtain ⟨r_2, f_2, hB_2⟩ := k_ex2 (xPop f a)
    have kc_2 := kX3_pop l D cI o f a
    rw [hB_2] at kc_2; dsimp only at kc_2
    refine KC.calli (ci := 3) (rest := [.ref (o 0)]) (wt := wP cI o f_2 a) (kc_2) (cwV 0 hts gX3_returnIf_X3_pop rfl rfl rfl (by decide +kernel) ⟨Nat.le_of_ble_eq_true rfl, Nat.le_of_ble_eq_true rfl⟩) ⟨hx, hb, hml, hown, hts⟩ hK hP hD hS hA rfl rfl rfl [0, 1, 2, 3, 4, 5, 6, 7, 8] [] [0, 1, 2, 3, 4, 5, 6, 7, 8] (by decide) rfl (wr := []) rfl (by decide) (by decide) (by decide) rfl rfl hl.1 rfl (Nat.le_of_ble_eq_true rfl) dX3_returnIf_8 ⟨Nat.zero_le _, Nat.zero_le _⟩ (fun H locs hP hD hS => ?_)
    refine pu_P_f1 (v := r_2) hx hb hts hi3 hown hK hP hD hS (hts (.fieldLink RX3 28 "InvaderBoard$Processor" "pc" "I") (List.mem_cons_of_mem _ (List.mem_append_left _ (List.mem_append_left _ (List.mem_of_getElem? (i := 0) rfl))))) dX3_returnIf_11 (fun H locs hP hD hS => ?_)
    refine lv_bipush (v := 6) hx hb dX3_returnIf_14 (by decide) ?_
    have hF : xReturnIf f a p1 = ((6 : Int32), upd f_2 1 r_2) := by
      unfold xReturnIf
      refine (if_neg c_1).trans ?_
      rewrite [hB_2]
      rfl
    rw [hF]
    exact KC.reti hx hb hr hlocks hK hP hD hS dX3_returnIf_16 rfl
  · refine lv_iconst (v := 0) hx hb dX3_returnIf_4 (by decide) ?_
    have hF : xReturnIf f a p1 = ((0 : Int32), f) := by
      unfold xReturnIf
      refine (if_pos c_1).trans ?_
      rfl
    rw [hF]
    exact KC.reti hx hb hr hlocks hK hP hD hS dX3_returnIf_5 rfl
def xJumpIf (f : Nat → Int32) (a : Nat → Nat → Int32) (p1 : Int32) : (Nat → Int32) :=
  (match xFetchWord f a with
  | (r_1, f_1) => if p1 = 0 then f_1
    else upd f_1 1 r_1)
set_option maxHeartbeats 4000000 in
set_option maxRecDepth 100000 in
theorem kX3_jumpIf (l : Launch) (D : va_G) (cI : ClassId) (o : Nat → Nat) (f : Nat → Int32) (a : Nat → Nat → Int32) (p1 : Int32) : KC l yX3_jumpIf wsX3_jumpIf 3 [.ref (o 0), .int p1] D cI (wP cI o f a) (wP cI o (xJumpIf f a p1) a) none := by
  refine KC.of (cc := cX3_jumpIf) (maxL := 3) (by decide) rfl (Nat.le_of_ble_eq_true rfl) ?_
  intro p e s m below meth c A hx hb hr hts hown hlocks hml hK hP hD hS hA ls hl
  have hl : lv_has ls 3 [(0, .ref (o 0)), (1, .int p1)] := hl
  have hown : s.vm.findClass RX3 = some m.cls := hown
  have hi3 : ∀ w ∈ u_ws RX3 TX3 9, w ∈ wsX3_jumpIf := fun w h => List.mem_cons_of_mem _ (List.mem_append_left _ (List.mem_append_right _ h))
  refine lv_aload_n hx hb dX3_jumpIf_0 rfl (lv_at hl 0 rfl) ?_
  obtain ⟨r_1, f_1, hB_1⟩ := k_ex2 (xFetchWord f a)
  have kc_1 := kX3_fetchWord l D cI o f a
  rw [hB_1] at kc_1; dsimp only at kc_1
  refine KC.calli (ci := 3) (rest := []) (wt := wP cI o f_1 a) (kc_1) (cwV 0 hts gX3_jumpIf_X3_fetchWord rfl rfl rfl (by decide +kernel) ⟨Nat.le_of_ble_eq_true rfl, Nat.le_of_ble_eq_true rfl⟩) ⟨hx, hb, hml, hown, hts⟩ hK hP hD hS hA rfl rfl rfl [0, 1, 2, 3, 4, 5, 6, 7, 8] [] [0, 1, 2, 3, 4, 5, 6, 7, 8] (by decide) rfl (wr := []) rfl (by decide) (by decide) (by decide) rfl rfl hl.1 rfl (Nat.le_of_ble_eq_true rfl) dX3_jumpIf_1 ⟨Nat.zero_le _, Nat.zero_le _⟩ (fun H locs hP hD hS => ?_)
  refine lv_istore_n (lv' := [(2, .int _), (0, .ref _), (1, .int _)]) hx hb dX3_jumpIf_4 rfl hl (by decide) rfl (fun ls hl => ?_)
  refine lv_iload_n hx hb dX3_jumpIf_5 rfl (lv_at hl 2 rfl) ?_
  refine lv_if_eq (tgt := 14) hx hb dX3_jumpIf_6 (by decide) (fun c_2 => ?_) (fun c_2 => ?_)
  · have hF : xJumpIf f a p1 = f_1 := by
      unfold xJumpIf
      rewrite [hB_1]
      dsimp only
      refine (if_pos c_2).trans ?_
      rfl
    rw [hF]
    exact KC.retv hx hb hr hlocks hK hP hD hS dX3_jumpIf_14
  · refine lv_aload_n hx hb dX3_jumpIf_9 rfl (lv_at hl 1 rfl) ?_
    refine lv_iload_n hx hb dX3_jumpIf_10 rfl (lv_at hl 0 rfl) ?_
    refine pu_P_f1 (v := r_1) hx hb hts hi3 hown hK hP hD hS (hts (.fieldLink RX3 28 "InvaderBoard$Processor" "pc" "I") (List.mem_cons_of_mem _ (List.mem_append_left _ (List.mem_append_left _ (List.mem_of_getElem? (i := 0) rfl))))) dX3_jumpIf_11 (fun H locs hP hD hS => ?_)
    have hF : xJumpIf f a p1 = upd f_1 1 r_1 := by
      unfold xJumpIf
      rewrite [hB_1]
      dsimp only
      refine (if_neg c_2).trans ?_
      rfl
    rw [hF]
    exact KC.retv hx hb hr hlocks hK hP hD hS dX3_jumpIf_14
def xCallIf (f : Nat → Int32) (a : Nat → Nat → Int32) (p1 : Int32) : Int32 × (Nat → Int32) × (Nat → Nat → Int32) :=
  (match xFetchWord f a with
  | (r_1, f_1) => if p1 = 0 then ((0 : Int32), f_1, a)
    else (match xPush f_1 a (f_1 1) with
      | (f_3, a_3) => ((6 : Int32), upd f_3 1 r_1, a_3)))
set_option maxHeartbeats 4000000 in
set_option maxRecDepth 100000 in
theorem kX3_callIf (l : Launch) (D : va_G) (cI : ClassId) (o : Nat → Nat) (f : Nat → Int32) (a : Nat → Nat → Int32) (p1 : Int32) : KC l yX3_callIf wsX3_callIf 3 [.ref (o 0), .int p1] D cI (wP cI o f a) (wP cI o ((xCallIf f a p1).2.1) ((xCallIf f a p1).2.2)) (some (.int (xCallIf f a p1).1)) := by
  refine KC.of (cc := cX3_callIf) (maxL := 3) (by decide) rfl (Nat.le_of_ble_eq_true rfl) ?_
  intro p e s m below meth c A hx hb hr hts hown hlocks hml hK hP hD hS hA ls hl
  have hl : lv_has ls 3 [(0, .ref (o 0)), (1, .int p1)] := hl
  have hown : s.vm.findClass RX3 = some m.cls := hown
  have hi3 : ∀ w ∈ u_ws RX3 TX3 9, w ∈ wsX3_callIf := fun w h => List.mem_cons_of_mem _ (List.mem_append_left _ (List.mem_append_right _ h))
  refine lv_aload_n hx hb dX3_callIf_0 rfl (lv_at hl 0 rfl) ?_
  obtain ⟨r_1, f_1, hB_1⟩ := k_ex2 (xFetchWord f a)
  have kc_1 := kX3_fetchWord l D cI o f a
  rw [hB_1] at kc_1; dsimp only at kc_1
  refine KC.calli (ci := 3) (rest := []) (wt := wP cI o f_1 a) (kc_1) (cwV 0 hts gX3_callIf_X3_fetchWord rfl rfl rfl (by decide +kernel) ⟨Nat.le_of_ble_eq_true rfl, Nat.le_of_ble_eq_true rfl⟩) ⟨hx, hb, hml, hown, hts⟩ hK hP hD hS hA rfl rfl rfl [0, 1, 2, 3, 4, 5, 6, 7, 8] [] [0, 1, 2, 3, 4, 5, 6, 7, 8] (by decide) rfl (wr := []) rfl (by decide) (by decide) (by decide) rfl rfl hl.1 rfl (Nat.le_of_ble_eq_true rfl) dX3_callIf_1 ⟨Nat.zero_le _, Nat.zero_le _⟩ (fun H locs hP hD hS => ?_)
  refine lv_istore_n (lv' := [(2, .int _), (0, .ref _), (1, .int _)]) hx hb dX3_callIf_4 rfl hl (by decide) rfl (fun ls hl => ?_)
  refine lv_iload_n hx hb dX3_callIf_5 rfl (lv_at hl 2 rfl) ?_
  refine lv_if_ne (tgt := 11) hx hb dX3_callIf_6 (by decide) (fun c_2 => ?_) (fun c_2 => ?_)
  · refine lv_aload_n hx hb dX3_callIf_11 rfl (lv_at hl 1 rfl) ?_
    refine lv_aload_n hx hb dX3_callIf_12 rfl (lv_at hl 1 rfl) ?_
    refine va_get (ci := 3) (v := .int (f_1 1)) (C := RX3) (T := TX3) (N := 9) hx hb hts hi3 hown hK hP 0 rfl rfl 5 (by decide) (hts (.fieldLink RX3 28 "InvaderBoard$Processor" "pc" "I") (List.mem_cons_of_mem _ (List.mem_append_left _ (List.mem_append_left _ (List.mem_append_left _ (List.mem_of_getElem? (i := 0) rfl)))))) (fun _ h9 => h9) rfl dX3_callIf_13 ?_
    obtain ⟨f_3, a_3, hB_3⟩ := k_ex2 (xPush f_1 a (f_1 1))
    have kc_3 := kX3_push l D cI o f_1 a (f_1 1)
    rw [hB_3] at kc_3; dsimp only at kc_3
    refine KC.callv (ci := 3) (rest := []) (wt := wP cI o f_3 a_3) (kc_3) (cwV 1 hts gX3_callIf_X3_push rfl rfl rfl (by decide +kernel) ⟨Nat.le_of_ble_eq_true rfl, Nat.le_of_ble_eq_true rfl⟩) ⟨hx, hb, hml, hown, hts⟩ hK hP hD hS hA rfl rfl rfl [0, 1, 2, 3, 4, 5, 6, 7, 8] [] [0, 1, 2, 3, 4, 5, 6, 7, 8] (by decide) rfl (wr := []) rfl (by decide) (by decide) (by decide) rfl rfl hl.1 rfl (Nat.le_of_ble_eq_true rfl) dX3_callIf_16 ⟨Nat.zero_le _, Nat.zero_le _⟩ (fun H locs hP hD hS => ?_)
    refine lv_aload_n hx hb dX3_callIf_19 rfl (lv_at hl 1 rfl) ?_
    refine lv_iload_n hx hb dX3_callIf_20 rfl (lv_at hl 0 rfl) ?_
    refine pu_P_f1 (v := r_1) hx hb hts hi3 hown hK hP hD hS (hts (.fieldLink RX3 28 "InvaderBoard$Processor" "pc" "I") (List.mem_cons_of_mem _ (List.mem_append_left _ (List.mem_append_left _ (List.mem_append_left _ (List.mem_of_getElem? (i := 0) rfl)))))) dX3_callIf_21 (fun H locs hP hD hS => ?_)
    refine lv_bipush (v := 6) hx hb dX3_callIf_24 (by decide) ?_
    have hF : xCallIf f a p1 = ((6 : Int32), upd f_3 1 r_1, a_3) := by
      unfold xCallIf
      rewrite [hB_1]
      dsimp only
      refine (if_neg c_2).trans ?_
      rewrite [hB_3]
      rfl
    rw [hF]
    exact KC.reti hx hb hr hlocks hK hP hD hS dX3_callIf_26 rfl
  · refine lv_iconst (v := 0) hx hb dX3_callIf_9 (by decide) ?_
    have hF : xCallIf f a p1 = ((0 : Int32), f_1, a) := by
      unfold xCallIf
      rewrite [hB_1]
      dsimp only
      refine (if_pos c_2).trans ?_
      rfl
    rw [hF]
    exact KC.reti hx hb hr hlocks hK hP hD hS dX3_callIf_10 rfl
def xStatusWord (f : Nat → Int32) (a : Nat → Nat → Int32)  : Int32 :=
  (((a 2) (7 : Int32).toNatClampNeg) <<< ((8 : Int32) &&& 31)) ||| (f 11)
set_option maxHeartbeats 4000000 in
set_option maxRecDepth 100000 in
theorem kX3_statusWord (l : Launch) (D : va_G) (cI : ClassId) (o : Nat → Nat) (f : Nat → Int32) (a : Nat → Nat → Int32)  : KC l yX3_statusWord wsX3_statusWord 0 [.ref (o 0)] D cI (wP cI o f a) (wP cI o f a) (some (.int (xStatusWord f a))) := by
  refine KC.of (cc := cX3_statusWord) (maxL := 1) (by decide) rfl (Nat.le_of_ble_eq_true rfl) ?_
  intro p e s m below meth c A hx hb hr hts hown hlocks hml hK hP hD hS hA ls hl
  have hl : lv_has ls 1 [(0, .ref (o 0))] := hl
  have hown : s.vm.findClass RX3 = some m.cls := hown
  have hi3 : ∀ w ∈ u_ws RX3 TX3 9, w ∈ wsX3_statusWord := fun w h => List.mem_cons_of_mem _ (List.mem_append_right _ h)
  refine lv_aload_n hx hb dX3_statusWord_0 rfl (lv_at hl 0 rfl) ?_
  refine va_get (ci := 3) (v := .ref (o 1)) (C := RX3) (T := TX3) (N := 9) hx hb hts hi3 hown hK hP 0 rfl rfl 2 (by decide) (hts (.fieldLink RX3 9 "InvaderBoard$Processor" "registers" "[I") (List.mem_cons_of_mem _ (List.mem_append_left _ (List.mem_of_getElem? (i := 0) rfl)))) (fun _ h9 => h9) rfl dX3_statusWord_1 ?_
  refine lv_bipush (v := 7) hx hb dX3_statusWord_4 (by decide) ?_
  refine va_iald (f := a 2) hx hb hK hP 1 0 rfl rfl (by unfold vp_in; decide) dX3_statusWord_6 ?_
  refine lv_bipush (v := 8) hx hb dX3_statusWord_7 (by decide) ?_
  refine lv_ishl hx hb dX3_statusWord_9 ?_
  refine lv_aload_n hx hb dX3_statusWord_10 rfl (lv_at hl 0 rfl) ?_
  refine va_get (ci := 3) (v := .int (f 11)) (C := RX3) (T := TX3) (N := 9) hx hb hts hi3 hown hK hP 0 rfl rfl 3 (by decide) (hts (.fieldLink RX3 13 "InvaderBoard$Processor" "flags" "I") (List.mem_cons_of_mem _ (List.mem_append_left _ (List.mem_of_getElem? (i := 1) rfl)))) (fun _ h9 => h9) rfl dX3_statusWord_11 ?_
  refine lv_ior hx hb dX3_statusWord_14 ?_
  have hF : xStatusWord f a = (((a 2) (7 : Int32).toNatClampNeg) <<< ((8 : Int32) &&& 31)) ||| (f 11) := rfl
  rw [hF]
  exact KC.reti hx hb hr hlocks hK hP hD hS dX3_statusWord_15 rfl
def xSetStatusWord (f : Nat → Int32) (a : Nat → Nat → Int32) (p1 : Int32) : (Nat → Int32) × (Nat → Nat → Int32) :=
  (upd f 11 ((p1 &&& (213 : Int32)) ||| (2 : Int32)), ua a 2 (upd (a 2) (7 : Int32).toNatClampNeg ((p1 >>> ((8 : Int32) &&& 31)) &&& (255 : Int32))))
set_option maxHeartbeats 4000000 in
set_option maxRecDepth 100000 in
theorem kX3_setStatusWord (l : Launch) (D : va_G) (cI : ClassId) (o : Nat → Nat) (f : Nat → Int32) (a : Nat → Nat → Int32) (p1 : Int32) : KC l yX3_setStatusWord wsX3_setStatusWord 0 [.ref (o 0), .int p1] D cI (wP cI o f a) (wP cI o ((xSetStatusWord f a p1).1) ((xSetStatusWord f a p1).2)) none := by
  refine KC.of (cc := cX3_setStatusWord) (maxL := 2) (by decide) rfl (Nat.le_of_ble_eq_true rfl) ?_
  intro p e s m below meth c A hx hb hr hts hown hlocks hml hK hP hD hS hA ls hl
  have hl : lv_has ls 2 [(0, .ref (o 0)), (1, .int p1)] := hl
  have hown : s.vm.findClass RX3 = some m.cls := hown
  have hi3 : ∀ w ∈ u_ws RX3 TX3 9, w ∈ wsX3_setStatusWord := fun w h => List.mem_cons_of_mem _ (List.mem_append_right _ h)
  refine lv_aload_n hx hb dX3_setStatusWord_0 rfl (lv_at hl 0 rfl) ?_
  refine va_get (ci := 3) (v := .ref (o 1)) (C := RX3) (T := TX3) (N := 9) hx hb hts hi3 hown hK hP 0 rfl rfl 2 (by decide) (hts (.fieldLink RX3 9 "InvaderBoard$Processor" "registers" "[I") (List.mem_cons_of_mem _ (List.mem_append_left _ (List.mem_of_getElem? (i := 0) rfl)))) (fun _ h9 => h9) rfl dX3_setStatusWord_1 ?_
  refine lv_bipush (v := 7) hx hb dX3_setStatusWord_4 (by decide) ?_
  refine lv_iload_n hx hb dX3_setStatusWord_6 rfl (lv_at hl 1 rfl) ?_
  refine lv_bipush (v := 8) hx hb dX3_setStatusWord_7 (by decide) ?_
  refine lv_ishr hx hb dX3_setStatusWord_9 ?_
  refine lv_sipush (v := 255) hx hb dX3_setStatusWord_10 (by decide) ?_
  refine lv_iand hx hb dX3_setStatusWord_13 ?_
  refine pu_P_a2 hx hb hK hP hD hS (by unfold vp_in; decide) dX3_setStatusWord_14 (fun H locs hP hD hS => ?_)
  refine lv_aload_n hx hb dX3_setStatusWord_15 rfl (lv_at hl 0 rfl) ?_
  refine lv_iload_n hx hb dX3_setStatusWord_16 rfl (lv_at hl 1 rfl) ?_
  refine lv_sipush (v := 213) hx hb dX3_setStatusWord_17 (by decide) ?_
  refine lv_iand hx hb dX3_setStatusWord_20 ?_
  refine lv_iconst (v := 2) hx hb dX3_setStatusWord_21 (by decide) ?_
  refine lv_ior hx hb dX3_setStatusWord_22 ?_
  refine pu_P_f11 (v := (p1 &&& (213 : Int32)) ||| (2 : Int32)) hx hb hts hi3 hown hK hP hD hS (hts (.fieldLink RX3 13 "InvaderBoard$Processor" "flags" "I") (List.mem_cons_of_mem _ (List.mem_append_left _ (List.mem_of_getElem? (i := 1) rfl)))) dX3_setStatusWord_23 (fun H locs hP hD hS => ?_)
  have hF : xSetStatusWord f a p1 = (upd f 11 ((p1 &&& (213 : Int32)) ||| (2 : Int32)), ua a 2 (upd (a 2) (7 : Int32).toNatClampNeg ((p1 >>> ((8 : Int32) &&& 31)) &&& (255 : Int32)))) := rfl
  rw [hF]
  exact KC.retv hx hb hr hlocks hK hP hD hS dX3_setStatusWord_26
def xPopOrReturn (f : Nat → Int32) (a : Nat → Nat → Int32) (p1 : Int32) : (Nat → Int32) × (Nat → Nat → Int32) :=
  if p1 = (1 : Int32) then (match xPop f a with
    | (r_2, f_2) => (upd f_2 1 r_2, a))
  else if p1 = (3 : Int32) then (match xPop f a with
      | (r_4, f_4) => (upd f_4 1 r_4, a))
    else if p1 = (5 : Int32) then (upd f 1 (xPairAt f a (4 : Int32)), a)
      else if p1 = (6 : Int32) then (match xPop f a with
          | (r_7, f_7) => (match xSetStatusWord f_7 a r_7 with
            | (f_8, a_8) => (f_8, a_8)))
        else if p1 = (7 : Int32) then (upd f 0 (xPairAt f a (4 : Int32)), a)
          else (match xPop f a with
            | (r_10, f_10) => (f_10, xSetPairAt f_10 a p1 r_10))
set_option maxHeartbeats 4000000 in
set_option maxRecDepth 100000 in
theorem kX3_popOrReturn (l : Launch) (D : va_G) (cI : ClassId) (o : Nat → Nat) (f : Nat → Int32) (a : Nat → Nat → Int32) (p1 : Int32) : KC l yX3_popOrReturn wsX3_popOrReturn 3 [.ref (o 0), .int p1] D cI (wP cI o f a) (wP cI o ((xPopOrReturn f a p1).1) ((xPopOrReturn f a p1).2)) none := by
  refine KC.of (cc := cX3_popOrReturn) (maxL := 2) (by decide) rfl (Nat.le_of_ble_eq_true rfl) ?_
  intro p e s m below meth c A hx hb hr hts hown hlocks hml hK hP hD hS hA ls hl
  have hl : lv_has ls 2 [(0, .ref (o 0)), (1, .int p1)] := hl
  have hown : s.vm.findClass RX3 = some m.cls := hown
  have hi3 : ∀ w ∈ u_ws RX3 TX3 9, w ∈ wsX3_popOrReturn := fun w h => List.mem_cons_of_mem _ (List.mem_append_left _ (List.mem_append_right _ h))
  refine lv_iload_n hx hb dX3_popOrReturn_0 rfl (lv_at hl 1 rfl) ?_
  by_cases c_1 : p1 = (1 : Int32)
  · refine k_tin (tgt := 44) hx hb (1 : Int32) c_1 dX3_popOrReturn_1 (by decide) (by decide) rfl (by decide) ?_
    refine lv_aload_n hx hb dX3_popOrReturn_44 rfl (lv_at hl 0 rfl) ?_
    refine lv_aload_n hx hb dX3_popOrReturn_45 rfl (lv_at hl 0 rfl) ?_
    obtain ⟨r_2, f_2, hB_2⟩ := k_ex2 (xPop f a)
    have kc_2 := kX3_pop l D cI o f a
    rw [hB_2] at kc_2; dsimp only at kc_2
    refine KC.calli (ci := 3) (rest := [.ref (o 0)]) (wt := wP cI o f_2 a) (kc_2) (cwV 0 hts gX3_popOrReturn_X3_pop rfl rfl rfl (by decide +kernel) ⟨Nat.le_of_ble_eq_true rfl, Nat.le_of_ble_eq_true rfl⟩) ⟨hx, hb, hml, hown, hts⟩ hK hP hD hS hA rfl rfl rfl [0, 1, 2, 3, 4, 5, 6, 7, 8] [] [0, 1, 2, 3, 4, 5, 6, 7, 8] (by decide) rfl (wr := []) rfl (by decide) (by decide) (by decide) rfl rfl hl.1 rfl (Nat.le_of_ble_eq_true rfl) dX3_popOrReturn_46 ⟨Nat.zero_le _, Nat.zero_le _⟩ (fun H locs hP hD hS => ?_)
    refine pu_P_f1 (v := r_2) hx hb hts hi3 hown hK hP hD hS (hts (.fieldLink RX3 28 "InvaderBoard$Processor" "pc" "I") (List.mem_cons_of_mem _ (List.mem_append_left _ (List.mem_append_left _ (List.mem_append_left _ (List.mem_of_getElem? (i := 0) rfl)))))) dX3_popOrReturn_49 (fun H locs hP hD hS => ?_)
    refine lv_goto (tgt := 110) hx hb dX3_popOrReturn_52 (by decide) ?_
    have hF : xPopOrReturn f a p1 = (upd f_2 1 r_2, a) := by
      unfold xPopOrReturn
      refine (if_pos c_1).trans ?_
      rewrite [hB_2]
      rfl
    rw [hF]
    exact KC.retv hx hb hr hlocks hK hP hD hS dX3_popOrReturn_110
  by_cases c_3 : p1 = (3 : Int32)
  · refine k_tin (tgt := 55) hx hb (3 : Int32) c_3 dX3_popOrReturn_1 (by decide) (by decide) rfl (by decide) ?_
    refine lv_aload_n hx hb dX3_popOrReturn_55 rfl (lv_at hl 0 rfl) ?_
    refine lv_aload_n hx hb dX3_popOrReturn_56 rfl (lv_at hl 0 rfl) ?_
    obtain ⟨r_4, f_4, hB_4⟩ := k_ex2 (xPop f a)
    have kc_4 := kX3_pop l D cI o f a
    rw [hB_4] at kc_4; dsimp only at kc_4
    refine KC.calli (ci := 3) (rest := [.ref (o 0)]) (wt := wP cI o f_4 a) (kc_4) (cwV 0 hts gX3_popOrReturn_X3_pop rfl rfl rfl (by decide +kernel) ⟨Nat.le_of_ble_eq_true rfl, Nat.le_of_ble_eq_true rfl⟩) ⟨hx, hb, hml, hown, hts⟩ hK hP hD hS hA rfl rfl rfl [0, 1, 2, 3, 4, 5, 6, 7, 8] [] [0, 1, 2, 3, 4, 5, 6, 7, 8] (by decide) rfl (wr := []) rfl (by decide) (by decide) (by decide) rfl rfl hl.1 rfl (Nat.le_of_ble_eq_true rfl) dX3_popOrReturn_57 ⟨Nat.zero_le _, Nat.zero_le _⟩ (fun H locs hP hD hS => ?_)
    refine pu_P_f1 (v := r_4) hx hb hts hi3 hown hK hP hD hS (hts (.fieldLink RX3 28 "InvaderBoard$Processor" "pc" "I") (List.mem_cons_of_mem _ (List.mem_append_left _ (List.mem_append_left _ (List.mem_append_left _ (List.mem_of_getElem? (i := 0) rfl)))))) dX3_popOrReturn_60 (fun H locs hP hD hS => ?_)
    refine lv_goto (tgt := 110) hx hb dX3_popOrReturn_63 (by decide) ?_
    have hF : xPopOrReturn f a p1 = (upd f_4 1 r_4, a) := by
      unfold xPopOrReturn
      refine (if_neg c_1).trans ?_
      refine (if_pos c_3).trans ?_
      rewrite [hB_4]
      rfl
    rw [hF]
    exact KC.retv hx hb hr hlocks hK hP hD hS dX3_popOrReturn_110
  by_cases c_5 : p1 = (5 : Int32)
  · refine k_tin (tgt := 66) hx hb (5 : Int32) c_5 dX3_popOrReturn_1 (by decide) (by decide) rfl (by decide) ?_
    refine lv_aload_n hx hb dX3_popOrReturn_66 rfl (lv_at hl 0 rfl) ?_
    refine lv_aload_n hx hb dX3_popOrReturn_67 rfl (lv_at hl 0 rfl) ?_
    refine lv_iconst (v := 4) hx hb dX3_popOrReturn_68 (by decide) ?_
    refine KC.calli (ci := 3) (rest := [.ref (o 0)]) (wt := wP cI o f a) (kX3_pairAt l D cI o f a (4 : Int32)) (cwV 1 hts gX3_popOrReturn_X3_pairAt rfl rfl rfl (by decide +kernel) ⟨Nat.le_of_ble_eq_true rfl, Nat.le_of_ble_eq_true rfl⟩) ⟨hx, hb, hml, hown, hts⟩ hK hP hD hS hA rfl rfl rfl [0, 1, 2, 3, 4, 5, 6, 7, 8] [] [0, 1, 2, 3, 4, 5, 6, 7, 8] (by decide) rfl (wr := []) rfl (by decide) (by decide) (by decide) rfl rfl hl.1 rfl (Nat.le_of_ble_eq_true rfl) dX3_popOrReturn_69 ⟨Nat.zero_le _, Nat.zero_le _⟩ (fun H locs hP hD hS => ?_)
    refine pu_P_f1 (v := xPairAt f a (4 : Int32)) hx hb hts hi3 hown hK hP hD hS (hts (.fieldLink RX3 28 "InvaderBoard$Processor" "pc" "I") (List.mem_cons_of_mem _ (List.mem_append_left _ (List.mem_append_left _ (List.mem_append_left _ (List.mem_of_getElem? (i := 0) rfl)))))) dX3_popOrReturn_72 (fun H locs hP hD hS => ?_)
    refine lv_goto (tgt := 110) hx hb dX3_popOrReturn_75 (by decide) ?_
    have hF : xPopOrReturn f a p1 = (upd f 1 (xPairAt f a (4 : Int32)), a) := by
      unfold xPopOrReturn
      refine (if_neg c_1).trans ?_
      refine (if_neg c_3).trans ?_
      refine (if_pos c_5).trans ?_
      rfl
    rw [hF]
    exact KC.retv hx hb hr hlocks hK hP hD hS dX3_popOrReturn_110
  by_cases c_6 : p1 = (6 : Int32)
  · refine k_tin (tgt := 78) hx hb (6 : Int32) c_6 dX3_popOrReturn_1 (by decide) (by decide) rfl (by decide) ?_
    refine lv_aload_n hx hb dX3_popOrReturn_78 rfl (lv_at hl 0 rfl) ?_
    refine lv_aload_n hx hb dX3_popOrReturn_79 rfl (lv_at hl 0 rfl) ?_
    obtain ⟨r_7, f_7, hB_7⟩ := k_ex2 (xPop f a)
    have kc_7 := kX3_pop l D cI o f a
    rw [hB_7] at kc_7; dsimp only at kc_7
    refine KC.calli (ci := 3) (rest := [.ref (o 0)]) (wt := wP cI o f_7 a) (kc_7) (cwV 0 hts gX3_popOrReturn_X3_pop rfl rfl rfl (by decide +kernel) ⟨Nat.le_of_ble_eq_true rfl, Nat.le_of_ble_eq_true rfl⟩) ⟨hx, hb, hml, hown, hts⟩ hK hP hD hS hA rfl rfl rfl [0, 1, 2, 3, 4, 5, 6, 7, 8] [] [0, 1, 2, 3, 4, 5, 6, 7, 8] (by decide) rfl (wr := []) rfl (by decide) (by decide) (by decide) rfl rfl hl.1 rfl (Nat.le_of_ble_eq_true rfl) dX3_popOrReturn_80 ⟨Nat.zero_le _, Nat.zero_le _⟩ (fun H locs hP hD hS => ?_)
    obtain ⟨f_8, a_8, hB_8⟩ := k_ex2 (xSetStatusWord f_7 a r_7)
    have kc_8 := kX3_setStatusWord l D cI o f_7 a r_7
    rw [hB_8] at kc_8; dsimp only at kc_8
    refine KC.callv (ci := 3) (rest := []) (wt := wP cI o f_8 a_8) (kc_8) (cwV 1 hts gX3_popOrReturn_X3_setStatusWord rfl rfl rfl (by decide +kernel) ⟨Nat.le_of_ble_eq_true rfl, Nat.le_of_ble_eq_true rfl⟩) ⟨hx, hb, hml, hown, hts⟩ hK hP hD hS hA rfl rfl rfl [0, 1, 2, 3, 4, 5, 6, 7, 8] [] [0, 1, 2, 3, 4, 5, 6, 7, 8] (by decide) rfl (wr := []) rfl (by decide) (by decide) (by decide) rfl rfl hl.1 rfl (Nat.le_of_ble_eq_true rfl) dX3_popOrReturn_83 ⟨Nat.zero_le _, Nat.zero_le _⟩ (fun H locs hP hD hS => ?_)
    refine lv_goto (tgt := 110) hx hb dX3_popOrReturn_86 (by decide) ?_
    have hF : xPopOrReturn f a p1 = (f_8, a_8) := by
      unfold xPopOrReturn
      refine (if_neg c_1).trans ?_
      refine (if_neg c_3).trans ?_
      refine (if_neg c_5).trans ?_
      refine (if_pos c_6).trans ?_
      rewrite [hB_7]
      dsimp only
      rewrite [hB_8]
      rfl
    rw [hF]
    exact KC.retv hx hb hr hlocks hK hP hD hS dX3_popOrReturn_110
  by_cases c_9 : p1 = (7 : Int32)
  · refine k_tin (tgt := 89) hx hb (7 : Int32) c_9 dX3_popOrReturn_1 (by decide) (by decide) rfl (by decide) ?_
    refine lv_aload_n hx hb dX3_popOrReturn_89 rfl (lv_at hl 0 rfl) ?_
    refine lv_aload_n hx hb dX3_popOrReturn_90 rfl (lv_at hl 0 rfl) ?_
    refine lv_iconst (v := 4) hx hb dX3_popOrReturn_91 (by decide) ?_
    refine KC.calli (ci := 3) (rest := [.ref (o 0)]) (wt := wP cI o f a) (kX3_pairAt l D cI o f a (4 : Int32)) (cwV 1 hts gX3_popOrReturn_X3_pairAt rfl rfl rfl (by decide +kernel) ⟨Nat.le_of_ble_eq_true rfl, Nat.le_of_ble_eq_true rfl⟩) ⟨hx, hb, hml, hown, hts⟩ hK hP hD hS hA rfl rfl rfl [0, 1, 2, 3, 4, 5, 6, 7, 8] [] [0, 1, 2, 3, 4, 5, 6, 7, 8] (by decide) rfl (wr := []) rfl (by decide) (by decide) (by decide) rfl rfl hl.1 rfl (Nat.le_of_ble_eq_true rfl) dX3_popOrReturn_92 ⟨Nat.zero_le _, Nat.zero_le _⟩ (fun H locs hP hD hS => ?_)
    refine pu_P_f0 (v := xPairAt f a (4 : Int32)) hx hb hts hi3 hown hK hP hD hS (hts (.fieldLink RX3 25 "InvaderBoard$Processor" "sp" "I") (List.mem_cons_of_mem _ (List.mem_append_left _ (List.mem_append_left _ (List.mem_append_left _ (List.mem_of_getElem? (i := 1) rfl)))))) dX3_popOrReturn_95 (fun H locs hP hD hS => ?_)
    refine lv_goto (tgt := 110) hx hb dX3_popOrReturn_98 (by decide) ?_
    have hF : xPopOrReturn f a p1 = (upd f 0 (xPairAt f a (4 : Int32)), a) := by
      unfold xPopOrReturn
      refine (if_neg c_1).trans ?_
      refine (if_neg c_3).trans ?_
      refine (if_neg c_5).trans ?_
      refine (if_neg c_6).trans ?_
      refine (if_pos c_9).trans ?_
      rfl
    rw [hF]
    exact KC.retv hx hb hr hlocks hK hP hD hS dX3_popOrReturn_110
  refine k_tdf (tgt := 101) hx hb dX3_popOrReturn_1 (by intro hr9; have := lv_neT c_1 (k := (1 : Int32)) (a := 1) (by decide); have := lv_neT c_3 (k := (3 : Int32)) (a := 3) (by decide); have := lv_neT c_5 (k := (5 : Int32)) (a := 5) (by decide); have := lv_neT c_6 (k := (6 : Int32)) (a := 6) (by decide); have := lv_neT c_9 (k := (7 : Int32)) (a := 7) (by decide); have : (p1).toInt = 2 ∨ (p1).toInt = 4 := (by omega); rcases this with h9 | h9 <;> (rw [h9]; rfl)) (by decide) ?_
  refine lv_aload_n hx hb dX3_popOrReturn_101 rfl (lv_at hl 0 rfl) ?_
  refine lv_iload_n hx hb dX3_popOrReturn_102 rfl (lv_at hl 1 rfl) ?_
  refine lv_aload_n hx hb dX3_popOrReturn_103 rfl (lv_at hl 0 rfl) ?_
  obtain ⟨r_10, f_10, hB_10⟩ := k_ex2 (xPop f a)
  have kc_10 := kX3_pop l D cI o f a
  rw [hB_10] at kc_10; dsimp only at kc_10
  refine KC.calli (ci := 3) (rest := [.int p1, .ref (o 0)]) (wt := wP cI o f_10 a) (kc_10) (cwV 0 hts gX3_popOrReturn_X3_pop rfl rfl rfl (by decide +kernel) ⟨Nat.le_of_ble_eq_true rfl, Nat.le_of_ble_eq_true rfl⟩) ⟨hx, hb, hml, hown, hts⟩ hK hP hD hS hA rfl rfl rfl [0, 1, 2, 3, 4, 5, 6, 7, 8] [] [0, 1, 2, 3, 4, 5, 6, 7, 8] (by decide) rfl (wr := []) rfl (by decide) (by decide) (by decide) rfl rfl hl.1 rfl (Nat.le_of_ble_eq_true rfl) dX3_popOrReturn_104 ⟨Nat.zero_le _, Nat.zero_le _⟩ (fun H locs hP hD hS => ?_)
  refine KC.callv (ci := 3) (rest := []) (wt := wP cI o f_10 (xSetPairAt f_10 a p1 r_10)) (kX3_setPairAt l D cI o f_10 a p1 r_10) (cwV 2 hts gX3_popOrReturn_X3_setPairAt rfl rfl rfl (by decide +kernel) ⟨Nat.le_of_ble_eq_true rfl, Nat.le_of_ble_eq_true rfl⟩) ⟨hx, hb, hml, hown, hts⟩ hK hP hD hS hA rfl rfl rfl [0, 1, 2, 3, 4, 5, 6, 7, 8] [] [0, 1, 2, 3, 4, 5, 6, 7, 8] (by decide) rfl (wr := []) rfl (by decide) (by decide) (by decide) rfl rfl hl.1 rfl (Nat.le_of_ble_eq_true rfl) dX3_popOrReturn_107 ⟨Nat.zero_le _, Nat.zero_le _⟩ (fun H locs hP hD hS => ?_)
  have hF : xPopOrReturn f a p1 = (f_10, xSetPairAt f_10 a p1 r_10) := by
    unfold xPopOrReturn
    refine (if_neg c_1).trans ?_
    refine (if_neg c_3).trans ?_
    refine (if_neg c_5).trans ?_
    refine (if_neg c_6).trans ?_
    refine (if_neg c_9).trans ?_
    rewrite [hB_10]
    rfl
  rw [hF]
  exact KC.retv hx hb hr hlocks hK hP hD hS dX3_popOrReturn_110
def xExchangePairs (f : Nat → Int32) (a : Nat → Nat → Int32)  : (Nat → Nat → Int32) :=
  xSetPairAt f (xSetPairAt f a (2 : Int32) (xPairAt f a (4 : Int32))) (4 : Int32) (xPairAt f a (2 : Int32))
set_option maxHeartbeats 4000000 in
set_option maxRecDepth 100000 in
theorem kX3_exchangePairs (l : Launch) (D : va_G) (cI : ClassId) (o : Nat → Nat) (f : Nat → Int32) (a : Nat → Nat → Int32)  : KC l yX3_exchangePairs wsX3_exchangePairs 1 [.ref (o 0)] D cI (wP cI o f a) (wP cI o f (xExchangePairs f a)) none := by
  refine KC.of (cc := cX3_exchangePairs) (maxL := 2) (by decide) rfl (Nat.le_of_ble_eq_true rfl) ?_
  intro p e s m below meth c A hx hb hr hts hown hlocks hml hK hP hD hS hA ls hl
  have hl : lv_has ls 2 [(0, .ref (o 0))] := hl
  have hown : s.vm.findClass RX3 = some m.cls := hown
  refine lv_aload_n hx hb dX3_exchangePairs_0 rfl (lv_at hl 0 rfl) ?_
  refine lv_iconst (v := 2) hx hb dX3_exchangePairs_1 (by decide) ?_
  refine KC.calli (ci := 3) (rest := []) (wt := wP cI o f a) (kX3_pairAt l D cI o f a (2 : Int32)) (cwV 1 hts gX3_exchangePairs_X3_pairAt rfl rfl rfl (by decide +kernel) ⟨Nat.le_of_ble_eq_true rfl, Nat.le_of_ble_eq_true rfl⟩) ⟨hx, hb, hml, hown, hts⟩ hK hP hD hS hA rfl rfl rfl [0, 1, 2, 3, 4, 5, 6, 7, 8] [] [0, 1, 2, 3, 4, 5, 6, 7, 8] (by decide) rfl (wr := []) rfl (by decide) (by decide) (by decide) rfl rfl hl.1 rfl (Nat.le_of_ble_eq_true rfl) dX3_exchangePairs_2 ⟨Nat.zero_le _, Nat.zero_le _⟩ (fun H locs hP hD hS => ?_)
  refine lv_istore_n (lv' := [(1, .int _), (0, .ref _)]) hx hb dX3_exchangePairs_5 rfl hl (by decide) rfl (fun ls hl => ?_)
  refine lv_aload_n hx hb dX3_exchangePairs_6 rfl (lv_at hl 1 rfl) ?_
  refine lv_iconst (v := 2) hx hb dX3_exchangePairs_7 (by decide) ?_
  refine lv_aload_n hx hb dX3_exchangePairs_8 rfl (lv_at hl 1 rfl) ?_
  refine lv_iconst (v := 4) hx hb dX3_exchangePairs_9 (by decide) ?_
  refine KC.calli (ci := 3) (rest := [.int (2 : Int32), .ref (o 0)]) (wt := wP cI o f a) (kX3_pairAt l D cI o f a (4 : Int32)) (cwV 1 hts gX3_exchangePairs_X3_pairAt rfl rfl rfl (by decide +kernel) ⟨Nat.le_of_ble_eq_true rfl, Nat.le_of_ble_eq_true rfl⟩) ⟨hx, hb, hml, hown, hts⟩ hK hP hD hS hA rfl rfl rfl [0, 1, 2, 3, 4, 5, 6, 7, 8] [] [0, 1, 2, 3, 4, 5, 6, 7, 8] (by decide) rfl (wr := []) rfl (by decide) (by decide) (by decide) rfl rfl hl.1 rfl (Nat.le_of_ble_eq_true rfl) dX3_exchangePairs_10 ⟨Nat.zero_le _, Nat.zero_le _⟩ (fun H locs hP hD hS => ?_)
  refine KC.callv (ci := 3) (rest := []) (wt := wP cI o f (xSetPairAt f a (2 : Int32) (xPairAt f a (4 : Int32)))) (kX3_setPairAt l D cI o f a (2 : Int32) (xPairAt f a (4 : Int32))) (cwV 2 hts gX3_exchangePairs_X3_setPairAt rfl rfl rfl (by decide +kernel) ⟨Nat.le_of_ble_eq_true rfl, Nat.le_of_ble_eq_true rfl⟩) ⟨hx, hb, hml, hown, hts⟩ hK hP hD hS hA rfl rfl rfl [0, 1, 2, 3, 4, 5, 6, 7, 8] [] [0, 1, 2, 3, 4, 5, 6, 7, 8] (by decide) rfl (wr := []) rfl (by decide) (by decide) (by decide) rfl rfl hl.1 rfl (Nat.le_of_ble_eq_true rfl) dX3_exchangePairs_13 ⟨Nat.zero_le _, Nat.zero_le _⟩ (fun H locs hP hD hS => ?_)
  refine lv_aload_n hx hb dX3_exchangePairs_16 rfl (lv_at hl 1 rfl) ?_
  refine lv_iconst (v := 4) hx hb dX3_exchangePairs_17 (by decide) ?_
  refine lv_iload_n hx hb dX3_exchangePairs_18 rfl (lv_at hl 0 rfl) ?_
  refine KC.callv (ci := 3) (rest := []) (wt := wP cI o f (xSetPairAt f (xSetPairAt f a (2 : Int32) (xPairAt f a (4 : Int32))) (4 : Int32) (xPairAt f a (2 : Int32)))) (kX3_setPairAt l D cI o f (xSetPairAt f a (2 : Int32) (xPairAt f a (4 : Int32))) (4 : Int32) (xPairAt f a (2 : Int32))) (cwV 2 hts gX3_exchangePairs_X3_setPairAt rfl rfl rfl (by decide +kernel) ⟨Nat.le_of_ble_eq_true rfl, Nat.le_of_ble_eq_true rfl⟩) ⟨hx, hb, hml, hown, hts⟩ hK hP hD hS hA rfl rfl rfl [0, 1, 2, 3, 4, 5, 6, 7, 8] [] [0, 1, 2, 3, 4, 5, 6, 7, 8] (by decide) rfl (wr := []) rfl (by decide) (by decide) (by decide) rfl rfl hl.1 rfl (Nat.le_of_ble_eq_true rfl) dX3_exchangePairs_19 ⟨Nat.zero_le _, Nat.zero_le _⟩ (fun H locs hP hD hS => ?_)
  have hF : xExchangePairs f a = xSetPairAt f (xSetPairAt f a (2 : Int32) (xPairAt f a (4 : Int32))) (4 : Int32) (xPairAt f a (2 : Int32)) := rfl
  rw [hF]
  exact KC.retv hx hb hr hlocks hK hP hD hS dX3_exchangePairs_22
def xExchangeTop (f : Nat → Int32) (a : Nat → Nat → Int32) (p1 : Int32) : Int32 × (Nat → Nat → Int32) :=
  (xReadWord a (f 0), ua a 1 (xWriteWord a (f 0) p1))
set_option maxHeartbeats 4000000 in
set_option maxRecDepth 100000 in
theorem kX3_exchangeTop (l : Launch) (D : va_G) (cI : ClassId) (o : Nat → Nat) (f : Nat → Int32) (a : Nat → Nat → Int32) (p1 : Int32) : KC l yX3_exchangeTop wsX3_exchangeTop 2 [.ref (o 0), .int p1] D cI (wP cI o f a) (wP cI o f ((xExchangeTop f a p1).2)) (some (.int (xExchangeTop f a p1).1)) := by
  refine KC.of (cc := cX3_exchangeTop) (maxL := 3) (by decide) rfl (Nat.le_of_ble_eq_true rfl) ?_
  intro p e s m below meth c A hx hb hr hts hown hlocks hml hK hP hD hS hA ls hl
  have hl : lv_has ls 3 [(0, .ref (o 0)), (1, .int p1)] := hl
  have hown : s.vm.findClass RX3 = some m.cls := hown
  have hi3 : ∀ w ∈ u_ws RX3 TX3 9, w ∈ wsX3_exchangeTop := fun w h => List.mem_cons_of_mem _ (List.mem_append_left _ (List.mem_append_right _ h))
  refine lv_aload_n hx hb dX3_exchangeTop_0 rfl (lv_at hl 0 rfl) ?_
  refine va_get (ci := 3) (v := .ref (o 2)) (C := RX3) (T := TX3) (N := 9) hx hb hts hi3 hown hK hP 0 rfl rfl 0 (by decide) (hts (.fieldLink RX3 17 "InvaderBoard$Processor" "store" "LInvaderBoard$Memory;") (List.mem_cons_of_mem _ (List.mem_append_left _ (List.mem_append_left _ (List.mem_of_getElem? (i := 0) rfl))))) (fun _ h9 => h9) rfl dX3_exchangeTop_1 ?_
  refine lv_aload_n hx hb dX3_exchangeTop_4 rfl (lv_at hl 0 rfl) ?_
  refine va_get (ci := 3) (v := .int (f 0)) (C := RX3) (T := TX3) (N := 9) hx hb hts hi3 hown hK hP 0 rfl rfl 4 (by decide) (hts (.fieldLink RX3 25 "InvaderBoard$Processor" "sp" "I") (List.mem_cons_of_mem _ (List.mem_append_left _ (List.mem_append_left _ (List.mem_of_getElem? (i := 1) rfl))))) (fun _ h9 => h9) rfl dX3_exchangeTop_5 ?_
  refine KC.calli (ci := 1) (rest := []) (wt := wP cI o f a) (kX1_readWord l D cI o a (f 0)) (cwV 1 hts gX3_exchangeTop_X1_readWord rfl rfl rfl (by decide +kernel) ⟨Nat.le_of_ble_eq_true rfl, Nat.le_of_ble_eq_true rfl⟩) ⟨hx, hb, hml, hown, hts⟩ hK hP hD hS hA rfl rfl rfl [2, 3, 4] [0, 1, 5, 6, 7, 8] [0, 1, 6, 7, 8, 2, 3, 4, 5] (by decide) rfl (wr := [_, _, _, _, _, _]) rfl (by decide) (by decide) (by decide) rfl rfl hl.1 rfl (Nat.le_of_ble_eq_true rfl) dX3_exchangeTop_8 ⟨Nat.zero_le _, Nat.zero_le _⟩ (fun H locs hP hD hS => ?_)
  refine lv_istore_n (lv' := [(2, .int _), (0, .ref _), (1, .int _)]) hx hb dX3_exchangeTop_11 rfl hl (by decide) rfl (fun ls hl => ?_)
  refine lv_aload_n hx hb dX3_exchangeTop_12 rfl (lv_at hl 1 rfl) ?_
  refine va_get (ci := 3) (v := .ref (o 2)) (C := RX3) (T := TX3) (N := 9) hx hb hts hi3 hown hK hP 0 rfl rfl 0 (by decide) (hts (.fieldLink RX3 17 "InvaderBoard$Processor" "store" "LInvaderBoard$Memory;") (List.mem_cons_of_mem _ (List.mem_append_left _ (List.mem_append_left _ (List.mem_of_getElem? (i := 0) rfl))))) (fun _ h9 => h9) rfl dX3_exchangeTop_13 ?_
  refine lv_aload_n hx hb dX3_exchangeTop_16 rfl (lv_at hl 1 rfl) ?_
  refine va_get (ci := 3) (v := .int (f 0)) (C := RX3) (T := TX3) (N := 9) hx hb hts hi3 hown hK hP 0 rfl rfl 4 (by decide) (hts (.fieldLink RX3 25 "InvaderBoard$Processor" "sp" "I") (List.mem_cons_of_mem _ (List.mem_append_left _ (List.mem_append_left _ (List.mem_of_getElem? (i := 1) rfl))))) (fun _ h9 => h9) rfl dX3_exchangeTop_17 ?_
  refine lv_iload_n hx hb dX3_exchangeTop_20 rfl (lv_at hl 2 rfl) ?_
  refine KC.callv (ci := 1) (rest := []) (wt := wP cI o f (ua a 1 (xWriteWord a (f 0) p1))) (kX1_writeWord l D cI o a (f 0) p1) (cwV 2 hts gX3_exchangeTop_X1_writeWord rfl rfl rfl (by decide +kernel) ⟨Nat.le_of_ble_eq_true rfl, Nat.le_of_ble_eq_true rfl⟩) ⟨hx, hb, hml, hown, hts⟩ hK hP hD hS hA rfl rfl rfl [2, 3, 4] [0, 1, 5, 6, 7, 8] [0, 1, 6, 7, 8, 2, 3, 4, 5] (by decide) rfl (wr := [_, _, _, _, _, _]) rfl (by decide) (by decide) (by decide) rfl rfl hl.1 rfl (Nat.le_of_ble_eq_true rfl) dX3_exchangeTop_21 ⟨Nat.zero_le _, Nat.zero_le _⟩ (fun H locs hP hD hS => ?_)
  refine lv_iload_n hx hb dX3_exchangeTop_24 rfl (lv_at hl 0 rfl) ?_
  have hF : xExchangeTop f a p1 = (xReadWord a (f 0), ua a 1 (xWriteWord a (f 0) p1)) := rfl
  rw [hF]
  exact KC.reti hx hb hr hlocks hK hP hD hS dX3_exchangeTop_25 rfl
def xAdjustDecimal (f : Nat → Int32) (a : Nat → Nat → Int32)  : (Nat → Int32) × (Nat → Nat → Int32) :=
  if (9 : Int32) < (((a 2) (7 : Int32).toNatClampNeg) &&& (15 : Int32)) then if ((((a 2) (7 : Int32).toNatClampNeg) &&& (15 : Int32)) + (6 : Int32)) ≤ (15 : Int32) then if (153 : Int32) < ((a 2) (7 : Int32).toNatClampNeg) then (upd f 11 ((xFlagsOf ((upd (a 2) (7 : Int32).toNatClampNeg ((((a 2) (7 : Int32).toNatClampNeg) + ((6 : Int32) + (96 : Int32))) &&& (255 : Int32))) (7 : Int32).toNatClampNeg)) ||| ((0 : Int32) ||| (1 : Int32))), ua a 2 (upd (a 2) (7 : Int32).toNatClampNeg ((((a 2) (7 : Int32).toNatClampNeg) + ((6 : Int32) + (96 : Int32))) &&& (255 : Int32))))
      else if (f 11) &&& (1 : Int32) = 0 then (upd f 11 ((xFlagsOf ((upd (a 2) (7 : Int32).toNatClampNeg ((((a 2) (7 : Int32).toNatClampNeg) + (6 : Int32)) &&& (255 : Int32))) (7 : Int32).toNatClampNeg)) ||| (0 : Int32)), ua a 2 (upd (a 2) (7 : Int32).toNatClampNeg ((((a 2) (7 : Int32).toNatClampNeg) + (6 : Int32)) &&& (255 : Int32))))
        else (upd f 11 ((xFlagsOf ((upd (a 2) (7 : Int32).toNatClampNeg ((((a 2) (7 : Int32).toNatClampNeg) + ((6 : Int32) + (96 : Int32))) &&& (255 : Int32))) (7 : Int32).toNatClampNeg)) ||| ((0 : Int32) ||| (1 : Int32))), ua a 2 (upd (a 2) (7 : Int32).toNatClampNeg ((((a 2) (7 : Int32).toNatClampNeg) + ((6 : Int32) + (96 : Int32))) &&& (255 : Int32))))
    else if (153 : Int32) < ((a 2) (7 : Int32).toNatClampNeg) then (upd f 11 ((xFlagsOf ((upd (a 2) (7 : Int32).toNatClampNeg ((((a 2) (7 : Int32).toNatClampNeg) + ((6 : Int32) + (96 : Int32))) &&& (255 : Int32))) (7 : Int32).toNatClampNeg)) ||| ((16 : Int32) ||| (1 : Int32))), ua a 2 (upd (a 2) (7 : Int32).toNatClampNeg ((((a 2) (7 : Int32).toNatClampNeg) + ((6 : Int32) + (96 : Int32))) &&& (255 : Int32))))
      else if (f 11) &&& (1 : Int32) = 0 then (upd f 11 ((xFlagsOf ((upd (a 2) (7 : Int32).toNatClampNeg ((((a 2) (7 : Int32).toNatClampNeg) + (6 : Int32)) &&& (255 : Int32))) (7 : Int32).toNatClampNeg)) ||| (16 : Int32)), ua a 2 (upd (a 2) (7 : Int32).toNatClampNeg ((((a 2) (7 : Int32).toNatClampNeg) + (6 : Int32)) &&& (255 : Int32))))
        else (upd f 11 ((xFlagsOf ((upd (a 2) (7 : Int32).toNatClampNeg ((((a 2) (7 : Int32).toNatClampNeg) + ((6 : Int32) + (96 : Int32))) &&& (255 : Int32))) (7 : Int32).toNatClampNeg)) ||| ((16 : Int32) ||| (1 : Int32))), ua a 2 (upd (a 2) (7 : Int32).toNatClampNeg ((((a 2) (7 : Int32).toNatClampNeg) + ((6 : Int32) + (96 : Int32))) &&& (255 : Int32))))
  else if (f 11) &&& (16 : Int32) = 0 then if ((((a 2) (7 : Int32).toNatClampNeg) &&& (15 : Int32)) + (0 : Int32)) ≤ (15 : Int32) then if (153 : Int32) < ((a 2) (7 : Int32).toNatClampNeg) then (upd f 11 ((xFlagsOf ((upd (a 2) (7 : Int32).toNatClampNeg ((((a 2) (7 : Int32).toNatClampNeg) + ((0 : Int32) + (96 : Int32))) &&& (255 : Int32))) (7 : Int32).toNatClampNeg)) ||| ((0 : Int32) ||| (1 : Int32))), ua a 2 (upd (a 2) (7 : Int32).toNatClampNeg ((((a 2) (7 : Int32).toNatClampNeg) + ((0 : Int32) + (96 : Int32))) &&& (255 : Int32))))
        else if (f 11) &&& (1 : Int32) = 0 then (upd f 11 ((xFlagsOf ((upd (a 2) (7 : Int32).toNatClampNeg ((((a 2) (7 : Int32).toNatClampNeg) + (0 : Int32)) &&& (255 : Int32))) (7 : Int32).toNatClampNeg)) ||| (0 : Int32)), ua a 2 (upd (a 2) (7 : Int32).toNatClampNeg ((((a 2) (7 : Int32).toNatClampNeg) + (0 : Int32)) &&& (255 : Int32))))
          else (upd f 11 ((xFlagsOf ((upd (a 2) (7 : Int32).toNatClampNeg ((((a 2) (7 : Int32).toNatClampNeg) + ((0 : Int32) + (96 : Int32))) &&& (255 : Int32))) (7 : Int32).toNatClampNeg)) ||| ((0 : Int32) ||| (1 : Int32))), ua a 2 (upd (a 2) (7 : Int32).toNatClampNeg ((((a 2) (7 : Int32).toNatClampNeg) + ((0 : Int32) + (96 : Int32))) &&& (255 : Int32))))
      else if (153 : Int32) < ((a 2) (7 : Int32).toNatClampNeg) then (upd f 11 ((xFlagsOf ((upd (a 2) (7 : Int32).toNatClampNeg ((((a 2) (7 : Int32).toNatClampNeg) + ((0 : Int32) + (96 : Int32))) &&& (255 : Int32))) (7 : Int32).toNatClampNeg)) ||| ((16 : Int32) ||| (1 : Int32))), ua a 2 (upd (a 2) (7 : Int32).toNatClampNeg ((((a 2) (7 : Int32).toNatClampNeg) + ((0 : Int32) + (96 : Int32))) &&& (255 : Int32))))
        else if (f 11) &&& (1 : Int32) = 0 then (upd f 11 ((xFlagsOf ((upd (a 2) (7 : Int32).toNatClampNeg ((((a 2) (7 : Int32).toNatClampNeg) + (0 : Int32)) &&& (255 : Int32))) (7 : Int32).toNatClampNeg)) ||| (16 : Int32)), ua a 2 (upd (a 2) (7 : Int32).toNatClampNeg ((((a 2) (7 : Int32).toNatClampNeg) + (0 : Int32)) &&& (255 : Int32))))
          else (upd f 11 ((xFlagsOf ((upd (a 2) (7 : Int32).toNatClampNeg ((((a 2) (7 : Int32).toNatClampNeg) + ((0 : Int32) + (96 : Int32))) &&& (255 : Int32))) (7 : Int32).toNatClampNeg)) ||| ((16 : Int32) ||| (1 : Int32))), ua a 2 (upd (a 2) (7 : Int32).toNatClampNeg ((((a 2) (7 : Int32).toNatClampNeg) + ((0 : Int32) + (96 : Int32))) &&& (255 : Int32))))
    else if ((((a 2) (7 : Int32).toNatClampNeg) &&& (15 : Int32)) + (6 : Int32)) ≤ (15 : Int32) then if (153 : Int32) < ((a 2) (7 : Int32).toNatClampNeg) then (upd f 11 ((xFlagsOf ((upd (a 2) (7 : Int32).toNatClampNeg ((((a 2) (7 : Int32).toNatClampNeg) + ((6 : Int32) + (96 : Int32))) &&& (255 : Int32))) (7 : Int32).toNatClampNeg)) ||| ((0 : Int32) ||| (1 : Int32))), ua a 2 (upd (a 2) (7 : Int32).toNatClampNeg ((((a 2) (7 : Int32).toNatClampNeg) + ((6 : Int32) + (96 : Int32))) &&& (255 : Int32))))
        else if (f 11) &&& (1 : Int32) = 0 then (upd f 11 ((xFlagsOf ((upd (a 2) (7 : Int32).toNatClampNeg ((((a 2) (7 : Int32).toNatClampNeg) + (6 : Int32)) &&& (255 : Int32))) (7 : Int32).toNatClampNeg)) ||| (0 : Int32)), ua a 2 (upd (a 2) (7 : Int32).toNatClampNeg ((((a 2) (7 : Int32).toNatClampNeg) + (6 : Int32)) &&& (255 : Int32))))
          else (upd f 11 ((xFlagsOf ((upd (a 2) (7 : Int32).toNatClampNeg ((((a 2) (7 : Int32).toNatClampNeg) + ((6 : Int32) + (96 : Int32))) &&& (255 : Int32))) (7 : Int32).toNatClampNeg)) ||| ((0 : Int32) ||| (1 : Int32))), ua a 2 (upd (a 2) (7 : Int32).toNatClampNeg ((((a 2) (7 : Int32).toNatClampNeg) + ((6 : Int32) + (96 : Int32))) &&& (255 : Int32))))
      else if (153 : Int32) < ((a 2) (7 : Int32).toNatClampNeg) then (upd f 11 ((xFlagsOf ((upd (a 2) (7 : Int32).toNatClampNeg ((((a 2) (7 : Int32).toNatClampNeg) + ((6 : Int32) + (96 : Int32))) &&& (255 : Int32))) (7 : Int32).toNatClampNeg)) ||| ((16 : Int32) ||| (1 : Int32))), ua a 2 (upd (a 2) (7 : Int32).toNatClampNeg ((((a 2) (7 : Int32).toNatClampNeg) + ((6 : Int32) + (96 : Int32))) &&& (255 : Int32))))
        else if (f 11) &&& (1 : Int32) = 0 then (upd f 11 ((xFlagsOf ((upd (a 2) (7 : Int32).toNatClampNeg ((((a 2) (7 : Int32).toNatClampNeg) + (6 : Int32)) &&& (255 : Int32))) (7 : Int32).toNatClampNeg)) ||| (16 : Int32)), ua a 2 (upd (a 2) (7 : Int32).toNatClampNeg ((((a 2) (7 : Int32).toNatClampNeg) + (6 : Int32)) &&& (255 : Int32))))
          else (upd f 11 ((xFlagsOf ((upd (a 2) (7 : Int32).toNatClampNeg ((((a 2) (7 : Int32).toNatClampNeg) + ((6 : Int32) + (96 : Int32))) &&& (255 : Int32))) (7 : Int32).toNatClampNeg)) ||| ((16 : Int32) ||| (1 : Int32))), ua a 2 (upd (a 2) (7 : Int32).toNatClampNeg ((((a 2) (7 : Int32).toNatClampNeg) + ((6 : Int32) + (96 : Int32))) &&& (255 : Int32))))
set_option maxHeartbeats 4000000 in
set_option maxRecDepth 100000 in
theorem kX3_adjustDecimal (l : Launch) (D : va_G) (cI : ClassId) (o : Nat → Nat) (f : Nat → Int32) (a : Nat → Nat → Int32)  : KC l yX3_adjustDecimal wsX3_adjustDecimal 2 [.ref (o 0)] D cI (wP cI o f a) (wP cI o ((xAdjustDecimal f a).1) ((xAdjustDecimal f a).2)) none := by
  refine KC.of (cc := cX3_adjustDecimal) (maxL := 5) (by decide) rfl (Nat.le_of_ble_eq_true rfl) ?_
  intro p e s m below meth c A hx hb hr hts hown hlocks hml hK hP hD hS hA ls hl
  have hl : lv_has ls 5 [(0, .ref (o 0))] := hl
  have hown : s.vm.findClass RX3 = some m.cls := hown
  have hi3 : ∀ w ∈ u_ws RX3 TX3 9, w ∈ wsX3_adjustDecimal := fun w h => List.mem_cons_of_mem _ (List.mem_append_right _ h)
  refine lv_aload_n hx hb dX3_adjustDecimal_0 rfl (lv_at hl 0 rfl) ?_
  refine va_get (ci := 3) (v := .ref (o 1)) (C := RX3) (T := TX3) (N := 9) hx hb hts hi3 hown hK hP 0 rfl rfl 2 (by decide) (hts (.fieldLink RX3 9 "InvaderBoard$Processor" "registers" "[I") (List.mem_cons_of_mem _ (List.mem_append_left _ (List.mem_of_getElem? (i := 0) rfl)))) (fun _ h9 => h9) rfl dX3_adjustDecimal_1 ?_
  refine lv_bipush (v := 7) hx hb dX3_adjustDecimal_4 (by decide) ?_
  refine va_iald (f := a 2) hx hb hK hP 1 0 rfl rfl (by unfold vp_in; decide) dX3_adjustDecimal_6 ?_
  refine lv_istore_n (lv' := [(1, .int _), (0, .ref _)]) hx hb dX3_adjustDecimal_7 rfl hl (by decide) rfl (fun ls hl => ?_)
  refine lv_iload_n hx hb dX3_adjustDecimal_8 rfl (lv_at hl 0 rfl) ?_
  refine lv_bipush (v := 15) hx hb dX3_adjustDecimal_9 (by decide) ?_
  refine lv_iand hx hb dX3_adjustDecimal_11 ?_
  refine lv_istore_n (lv' := [(2, .int _), (1, .int _), (0, .ref _)]) hx hb dX3_adjustDecimal_12 rfl hl (by decide) rfl (fun ls hl => ?_)
  refine lv_iload_n hx hb dX3_adjustDecimal_13 rfl (lv_at hl 0 rfl) ?_
  refine lv_bipush (v := 9) hx hb dX3_adjustDecimal_14 (by decide) ?_
  refine lv_icmp_gt (tgt := 29) hx hb dX3_adjustDecimal_16 (by decide) (fun c_1 => ?_) (fun c_1 => ?_)
  · refine lv_bipush (v := 6) hx hb dX3_adjustDecimal_29 (by decide) ?_
    refine lv_goto (tgt := 35) hx hb dX3_adjustDecimal_31 (by decide) ?_
    refine lv_istore_n (lv' := [(3, .int _), (2, .int _), (1, .int _), (0, .ref _)]) hx hb dX3_adjustDecimal_35 rfl hl (by decide) rfl (fun ls hl => ?_)
    refine lv_iload_n hx hb dX3_adjustDecimal_36 rfl (lv_at hl 1 rfl) ?_
    refine lv_iload_n hx hb dX3_adjustDecimal_37 rfl (lv_at hl 0 rfl) ?_
    refine lv_iadd hx hb dX3_adjustDecimal_38 ?_
    refine lv_bipush (v := 15) hx hb dX3_adjustDecimal_39 (by decide) ?_
    refine lv_icmp_le (tgt := 49) hx hb dX3_adjustDecimal_41 (by decide) (fun c_2 => ?_) (fun c_2 => ?_)
    · refine lv_iconst (v := 0) hx hb dX3_adjustDecimal_49 (by decide) ?_
      refine lv_istore (lv' := [(4, .int _), (3, .int _), (2, .int _), (1, .int _), (0, .ref _)]) hx hb dX3_adjustDecimal_50 hl (by decide) rfl (fun ls hl => ?_)
      refine lv_iload_n hx hb dX3_adjustDecimal_52 rfl (lv_at hl 3 rfl) ?_
      refine lv_sipush (v := 153) hx hb dX3_adjustDecimal_53 (by decide) ?_
      refine lv_icmp_gt (tgt := 68) hx hb dX3_adjustDecimal_56 (by decide) (fun c_3 => ?_) (fun c_3 => ?_)
      · refine lv_iinc (v := (6 : Int32) + (96 : Int32)) (lv' := [(3, .int _), (4, .int _), (2, .int _), (1, .int _), (0, .ref _)]) hx hb dX3_adjustDecimal_68 hl (k := 1) rfl rfl (by decide) rfl (fun ls hl => ?_)
        refine lv_iload hx hb dX3_adjustDecimal_71 (lv_at hl 1 rfl) ?_
        refine lv_iconst (v := 1) hx hb dX3_adjustDecimal_73 (by decide) ?_
        refine lv_ior hx hb dX3_adjustDecimal_74 ?_
        refine lv_istore (lv' := [(4, .int _), (3, .int _), (2, .int _), (1, .int _), (0, .ref _)]) hx hb dX3_adjustDecimal_75 hl (by decide) rfl (fun ls hl => ?_)
        refine lv_aload_n hx hb dX3_adjustDecimal_77 rfl (lv_at hl 4 rfl) ?_
        refine va_get (ci := 3) (v := .ref (o 1)) (C := RX3) (T := TX3) (N := 9) hx hb hts hi3 hown hK hP 0 rfl rfl 2 (by decide) (hts (.fieldLink RX3 9 "InvaderBoard$Processor" "registers" "[I") (List.mem_cons_of_mem _ (List.mem_append_left _ (List.mem_of_getElem? (i := 0) rfl)))) (fun _ h9 => h9) rfl dX3_adjustDecimal_78 ?_
        refine lv_bipush (v := 7) hx hb dX3_adjustDecimal_81 (by decide) ?_
        refine lv_iload_n hx hb dX3_adjustDecimal_83 rfl (lv_at hl 3 rfl) ?_
        refine lv_iload_n hx hb dX3_adjustDecimal_84 rfl (lv_at hl 1 rfl) ?_
        refine lv_iadd hx hb dX3_adjustDecimal_85 ?_
        refine lv_sipush (v := 255) hx hb dX3_adjustDecimal_86 (by decide) ?_
        refine lv_iand hx hb dX3_adjustDecimal_89 ?_
        refine pu_P_a2 hx hb hK hP hD hS (by unfold vp_in; decide) dX3_adjustDecimal_90 (fun H locs hP hD hS => ?_)
        refine lv_aload_n hx hb dX3_adjustDecimal_91 rfl (lv_at hl 4 rfl) ?_
        refine lv_aload_n hx hb dX3_adjustDecimal_92 rfl (lv_at hl 4 rfl) ?_
        refine va_get (ci := 3) (v := .ref (o 1)) (C := RX3) (T := TX3) (N := 9) hx hb hts hi3 hown hK hP 0 rfl rfl 2 (by decide) (hts (.fieldLink RX3 9 "InvaderBoard$Processor" "registers" "[I") (List.mem_cons_of_mem _ (List.mem_append_left _ (List.mem_of_getElem? (i := 0) rfl)))) (fun _ h9 => h9) rfl dX3_adjustDecimal_93 ?_
        refine lv_bipush (v := 7) hx hb dX3_adjustDecimal_96 (by decide) ?_
        refine va_iald (f := upd (a 2) (7 : Int32).toNatClampNeg ((((a 2) (7 : Int32).toNatClampNeg) + ((6 : Int32) + (96 : Int32))) &&& (255 : Int32))) hx hb hK hP 1 0 rfl rfl (by unfold vp_in; decide) dX3_adjustDecimal_98 ?_
        refine KC.callS (rest := [.ref (o 0)]) (kX3_flagsOf l D cI ((upd (a 2) (7 : Int32).toNatClampNeg ((((a 2) (7 : Int32).toNatClampNeg) + ((6 : Int32) + (96 : Int32))) &&& (255 : Int32))) (7 : Int32).toNatClampNeg)) (va_cwS 1 hts gX3_adjustDecimal_X3_flagsOf rfl rfl rfl (by decide +kernel) ⟨Nat.le_of_ble_eq_true rfl, Nat.le_of_ble_eq_true rfl⟩) ⟨hx, hb, hml, hown, hts⟩ hK hP hD hS hA rfl hl.1 rfl (Nat.le_of_ble_eq_true rfl) dX3_adjustDecimal_99 ⟨Nat.zero_le _, Nat.zero_le _⟩ (fun H locs hP hD hS => ?_)
        refine lv_iload hx hb dX3_adjustDecimal_102 (lv_at hl 0 rfl) ?_
        refine lv_ior hx hb dX3_adjustDecimal_104 ?_
        refine pu_P_f11 (v := (xFlagsOf ((upd (a 2) (7 : Int32).toNatClampNeg ((((a 2) (7 : Int32).toNatClampNeg) + ((6 : Int32) + (96 : Int32))) &&& (255 : Int32))) (7 : Int32).toNatClampNeg)) ||| ((0 : Int32) ||| (1 : Int32))) hx hb hts hi3 hown hK hP hD hS (hts (.fieldLink RX3 13 "InvaderBoard$Processor" "flags" "I") (List.mem_cons_of_mem _ (List.mem_append_left _ (List.mem_of_getElem? (i := 1) rfl)))) dX3_adjustDecimal_105 (fun H locs hP hD hS => ?_)
        have hF : xAdjustDecimal f a = (upd f 11 ((xFlagsOf ((upd (a 2) (7 : Int32).toNatClampNeg ((((a 2) (7 : Int32).toNatClampNeg) + ((6 : Int32) + (96 : Int32))) &&& (255 : Int32))) (7 : Int32).toNatClampNeg)) ||| ((0 : Int32) ||| (1 : Int32))), ua a 2 (upd (a 2) (7 : Int32).toNatClampNeg ((((a 2) (7 : Int32).toNatClampNeg) + ((6 : Int32) + (96 : Int32))) &&& (255 : Int32)))) := by
          unfold xAdjustDecimal
          refine (if_pos c_1).trans ?_
          refine (if_pos c_2).trans ?_
          refine (if_pos c_3).trans ?_
          rfl
        rw [hF]
        exact KC.retv hx hb hr hlocks hK hP hD hS dX3_adjustDecimal_108
      · refine lv_aload_n hx hb dX3_adjustDecimal_59 rfl (lv_at hl 4 rfl) ?_
        refine va_get (ci := 3) (v := .int (f 11)) (C := RX3) (T := TX3) (N := 9) hx hb hts hi3 hown hK hP 0 rfl rfl 3 (by decide) (hts (.fieldLink RX3 13 "InvaderBoard$Processor" "flags" "I") (List.mem_cons_of_mem _ (List.mem_append_left _ (List.mem_of_getElem? (i := 1) rfl)))) (fun _ h9 => h9) rfl dX3_adjustDecimal_60 ?_
        refine lv_iconst (v := 1) hx hb dX3_adjustDecimal_63 (by decide) ?_
        refine lv_iand hx hb dX3_adjustDecimal_64 ?_
        refine lv_if_eq (tgt := 77) hx hb dX3_adjustDecimal_65 (by decide) (fun c_4 => ?_) (fun c_4 => ?_)
        · refine lv_aload_n hx hb dX3_adjustDecimal_77 rfl (lv_at hl 4 rfl) ?_
          refine va_get (ci := 3) (v := .ref (o 1)) (C := RX3) (T := TX3) (N := 9) hx hb hts hi3 hown hK hP 0 rfl rfl 2 (by decide) (hts (.fieldLink RX3 9 "InvaderBoard$Processor" "registers" "[I") (List.mem_cons_of_mem _ (List.mem_append_left _ (List.mem_of_getElem? (i := 0) rfl)))) (fun _ h9 => h9) rfl dX3_adjustDecimal_78 ?_
          refine lv_bipush (v := 7) hx hb dX3_adjustDecimal_81 (by decide) ?_
          refine lv_iload_n hx hb dX3_adjustDecimal_83 rfl (lv_at hl 3 rfl) ?_
          refine lv_iload_n hx hb dX3_adjustDecimal_84 rfl (lv_at hl 1 rfl) ?_
          refine lv_iadd hx hb dX3_adjustDecimal_85 ?_
          refine lv_sipush (v := 255) hx hb dX3_adjustDecimal_86 (by decide) ?_
          refine lv_iand hx hb dX3_adjustDecimal_89 ?_
          refine pu_P_a2 hx hb hK hP hD hS (by unfold vp_in; decide) dX3_adjustDecimal_90 (fun H locs hP hD hS => ?_)
          refine lv_aload_n hx hb dX3_adjustDecimal_91 rfl (lv_at hl 4 rfl) ?_
          refine lv_aload_n hx hb dX3_adjustDecimal_92 rfl (lv_at hl 4 rfl) ?_
          refine va_get (ci := 3) (v := .ref (o 1)) (C := RX3) (T := TX3) (N := 9) hx hb hts hi3 hown hK hP 0 rfl rfl 2 (by decide) (hts (.fieldLink RX3 9 "InvaderBoard$Processor" "registers" "[I") (List.mem_cons_of_mem _ (List.mem_append_left _ (List.mem_of_getElem? (i := 0) rfl)))) (fun _ h9 => h9) rfl dX3_adjustDecimal_93 ?_
          refine lv_bipush (v := 7) hx hb dX3_adjustDecimal_96 (by decide) ?_
          refine va_iald (f := upd (a 2) (7 : Int32).toNatClampNeg ((((a 2) (7 : Int32).toNatClampNeg) + (6 : Int32)) &&& (255 : Int32))) hx hb hK hP 1 0 rfl rfl (by unfold vp_in; decide) dX3_adjustDecimal_98 ?_
          refine KC.callS (rest := [.ref (o 0)]) (kX3_flagsOf l D cI ((upd (a 2) (7 : Int32).toNatClampNeg ((((a 2) (7 : Int32).toNatClampNeg) + (6 : Int32)) &&& (255 : Int32))) (7 : Int32).toNatClampNeg)) (va_cwS 1 hts gX3_adjustDecimal_X3_flagsOf rfl rfl rfl (by decide +kernel) ⟨Nat.le_of_ble_eq_true rfl, Nat.le_of_ble_eq_true rfl⟩) ⟨hx, hb, hml, hown, hts⟩ hK hP hD hS hA rfl hl.1 rfl (Nat.le_of_ble_eq_true rfl) dX3_adjustDecimal_99 ⟨Nat.zero_le _, Nat.zero_le _⟩ (fun H locs hP hD hS => ?_)
          refine lv_iload hx hb dX3_adjustDecimal_102 (lv_at hl 0 rfl) ?_
          refine lv_ior hx hb dX3_adjustDecimal_104 ?_
          refine pu_P_f11 (v := (xFlagsOf ((upd (a 2) (7 : Int32).toNatClampNeg ((((a 2) (7 : Int32).toNatClampNeg) + (6 : Int32)) &&& (255 : Int32))) (7 : Int32).toNatClampNeg)) ||| (0 : Int32)) hx hb hts hi3 hown hK hP hD hS (hts (.fieldLink RX3 13 "InvaderBoard$Processor" "flags" "I") (List.mem_cons_of_mem _ (List.mem_append_left _ (List.mem_of_getElem? (i := 1) rfl)))) dX3_adjustDecimal_105 (fun H locs hP hD hS => ?_)
          have hF : xAdjustDecimal f a = (upd f 11 ((xFlagsOf ((upd (a 2) (7 : Int32).toNatClampNeg ((((a 2) (7 : Int32).toNatClampNeg) + (6 : Int32)) &&& (255 : Int32))) (7 : Int32).toNatClampNeg)) ||| (0 : Int32)), ua a 2 (upd (a 2) (7 : Int32).toNatClampNeg ((((a 2) (7 : Int32).toNatClampNeg) + (6 : Int32)) &&& (255 : Int32)))) := by
            unfold xAdjustDecimal
            refine (if_pos c_1).trans ?_
            refine (if_pos c_2).trans ?_
            refine (if_neg c_3).trans ?_
            refine (if_pos c_4).trans ?_
            rfl
          rw [hF]
          exact KC.retv hx hb hr hlocks hK hP hD hS dX3_adjustDecimal_108
        · refine lv_iinc (v := (6 : Int32) + (96 : Int32)) (lv' := [(3, .int _), (4, .int _), (2, .int _), (1, .int _), (0, .ref _)]) hx hb dX3_adjustDecimal_68 hl (k := 1) rfl rfl (by decide) rfl (fun ls hl => ?_)
          refine lv_iload hx hb dX3_adjustDecimal_71 (lv_at hl 1 rfl) ?_
          refine lv_iconst (v := 1) hx hb dX3_adjustDecimal_73 (by decide) ?_
          refine lv_ior hx hb dX3_adjustDecimal_74 ?_
          refine lv_istore (lv' := [(4, .int _), (3, .int _), (2, .int _), (1, .int _), (0, .ref _)]) hx hb dX3_adjustDecimal_75 hl (by decide) rfl (fun ls hl => ?_)
          refine lv_aload_n hx hb dX3_adjustDecimal_77 rfl (lv_at hl 4 rfl) ?_
          refine va_get (ci := 3) (v := .ref (o 1)) (C := RX3) (T := TX3) (N := 9) hx hb hts hi3 hown hK hP 0 rfl rfl 2 (by decide) (hts (.fieldLink RX3 9 "InvaderBoard$Processor" "registers" "[I") (List.mem_cons_of_mem _ (List.mem_append_left _ (List.mem_of_getElem? (i := 0) rfl)))) (fun _ h9 => h9) rfl dX3_adjustDecimal_78 ?_
          refine lv_bipush (v := 7) hx hb dX3_adjustDecimal_81 (by decide) ?_
          refine lv_iload_n hx hb dX3_adjustDecimal_83 rfl (lv_at hl 3 rfl) ?_
          refine lv_iload_n hx hb dX3_adjustDecimal_84 rfl (lv_at hl 1 rfl) ?_
          refine lv_iadd hx hb dX3_adjustDecimal_85 ?_
          refine lv_sipush (v := 255) hx hb dX3_adjustDecimal_86 (by decide) ?_
          refine lv_iand hx hb dX3_adjustDecimal_89 ?_
          refine pu_P_a2 hx hb hK hP hD hS (by unfold vp_in; decide) dX3_adjustDecimal_90 (fun H locs hP hD hS => ?_)
          refine lv_aload_n hx hb dX3_adjustDecimal_91 rfl (lv_at hl 4 rfl) ?_
          refine lv_aload_n hx hb dX3_adjustDecimal_92 rfl (lv_at hl 4 rfl) ?_
          refine va_get (ci := 3) (v := .ref (o 1)) (C := RX3) (T := TX3) (N := 9) hx hb hts hi3 hown hK hP 0 rfl rfl 2 (by decide) (hts (.fieldLink RX3 9 "InvaderBoard$Processor" "registers" "[I") (List.mem_cons_of_mem _ (List.mem_append_left _ (List.mem_of_getElem? (i := 0) rfl)))) (fun _ h9 => h9) rfl dX3_adjustDecimal_93 ?_
          refine lv_bipush (v := 7) hx hb dX3_adjustDecimal_96 (by decide) ?_
          refine va_iald (f := upd (a 2) (7 : Int32).toNatClampNeg ((((a 2) (7 : Int32).toNatClampNeg) + ((6 : Int32) + (96 : Int32))) &&& (255 : Int32))) hx hb hK hP 1 0 rfl rfl (by unfold vp_in; decide) dX3_adjustDecimal_98 ?_
          refine KC.callS (rest := [.ref (o 0)]) (kX3_flagsOf l D cI ((upd (a 2) (7 : Int32).toNatClampNeg ((((a 2) (7 : Int32).toNatClampNeg) + ((6 : Int32) + (96 : Int32))) &&& (255 : Int32))) (7 : Int32).toNatClampNeg)) (va_cwS 1 hts gX3_adjustDecimal_X3_flagsOf rfl rfl rfl (by decide +kernel) ⟨Nat.le_of_ble_eq_true rfl, Nat.le_of_ble_eq_true rfl⟩) ⟨hx, hb, hml, hown, hts⟩ hK hP hD hS hA rfl hl.1 rfl (Nat.le_of_ble_eq_true rfl) dX3_adjustDecimal_99 ⟨Nat.zero_le _, Nat.zero_le _⟩ (fun H locs hP hD hS => ?_)
          refine lv_iload hx hb dX3_adjustDecimal_102 (lv_at hl 0 rfl) ?_
          refine lv_ior hx hb dX3_adjustDecimal_104 ?_
          refine pu_P_f11 (v := (xFlagsOf ((upd (a 2) (7 : Int32).toNatClampNeg ((((a 2) (7 : Int32).toNatClampNeg) + ((6 : Int32) + (96 : Int32))) &&& (255 : Int32))) (7 : Int32).toNatClampNeg)) ||| ((0 : Int32) ||| (1 : Int32))) hx hb hts hi3 hown hK hP hD hS (hts (.fieldLink RX3 13 "InvaderBoard$Processor" "flags" "I") (List.mem_cons_of_mem _ (List.mem_append_left _ (List.mem_of_getElem? (i := 1) rfl)))) dX3_adjustDecimal_105 (fun H locs hP hD hS => ?_)
          have hF : xAdjustDecimal f a = (upd f 11 ((xFlagsOf ((upd (a 2) (7 : Int32).toNatClampNeg ((((a 2) (7 : Int32).toNatClampNeg) + ((6 : Int32) + (96 : Int32))) &&& (255 : Int32))) (7 : Int32).toNatClampNeg)) ||| ((0 : Int32) ||| (1 : Int32))), ua a 2 (upd (a 2) (7 : Int32).toNatClampNeg ((((a 2) (7 : Int32).toNatClampNeg) + ((6 : Int32) + (96 : Int32))) &&& (255 : Int32)))) := by
            unfold xAdjustDecimal
            refine (if_pos c_1).trans ?_
            refine (if_pos c_2).trans ?_
            refine (if_neg c_3).trans ?_
            refine (if_neg c_4).trans ?_
            rfl
          rw [hF]
          exact KC.retv hx hb hr hlocks hK hP hD hS dX3_adjustDecimal_108
    · refine lv_bipush (v := 16) hx hb dX3_adjustDecimal_44 (by decide) ?_
      refine lv_goto (tgt := 50) hx hb dX3_adjustDecimal_46 (by decide) ?_
      refine lv_istore (lv' := [(4, .int _), (3, .int _), (2, .int _), (1, .int _), (0, .ref _)]) hx hb dX3_adjustDecimal_50 hl (by decide) rfl (fun ls hl => ?_)
      refine lv_iload_n hx hb dX3_adjustDecimal_52 rfl (lv_at hl 3 rfl) ?_
      refine lv_sipush (v := 153) hx hb dX3_adjustDecimal_53 (by decide) ?_
      refine lv_icmp_gt (tgt := 68) hx hb dX3_adjustDecimal_56 (by decide) (fun c_5 => ?_) (fun c_5 => ?_)
      · refine lv_iinc (v := (6 : Int32) + (96 : Int32)) (lv' := [(3, .int _), (4, .int _), (2, .int _), (1, .int _), (0, .ref _)]) hx hb dX3_adjustDecimal_68 hl (k := 1) rfl rfl (by decide) rfl (fun ls hl => ?_)
        refine lv_iload hx hb dX3_adjustDecimal_71 (lv_at hl 1 rfl) ?_
        refine lv_iconst (v := 1) hx hb dX3_adjustDecimal_73 (by decide) ?_
        refine lv_ior hx hb dX3_adjustDecimal_74 ?_
        refine lv_istore (lv' := [(4, .int _), (3, .int _), (2, .int _), (1, .int _), (0, .ref _)]) hx hb dX3_adjustDecimal_75 hl (by decide) rfl (fun ls hl => ?_)
        refine lv_aload_n hx hb dX3_adjustDecimal_77 rfl (lv_at hl 4 rfl) ?_
        refine va_get (ci := 3) (v := .ref (o 1)) (C := RX3) (T := TX3) (N := 9) hx hb hts hi3 hown hK hP 0 rfl rfl 2 (by decide) (hts (.fieldLink RX3 9 "InvaderBoard$Processor" "registers" "[I") (List.mem_cons_of_mem _ (List.mem_append_left _ (List.mem_of_getElem? (i := 0) rfl)))) (fun _ h9 => h9) rfl dX3_adjustDecimal_78 ?_
        refine lv_bipush (v := 7) hx hb dX3_adjustDecimal_81 (by decide) ?_
        refine lv_iload_n hx hb dX3_adjustDecimal_83 rfl (lv_at hl 3 rfl) ?_
        refine lv_iload_n hx hb dX3_adjustDecimal_84 rfl (lv_at hl 1 rfl) ?_
        refine lv_iadd hx hb dX3_adjustDecimal_85 ?_
        refine lv_sipush (v := 255) hx hb dX3_adjustDecimal_86 (by decide) ?_
        refine lv_iand hx hb dX3_adjustDecimal_89 ?_
        refine pu_P_a2 hx hb hK hP hD hS (by unfold vp_in; decide) dX3_adjustDecimal_90 (fun H locs hP hD hS => ?_)
        refine lv_aload_n hx hb dX3_adjustDecimal_91 rfl (lv_at hl 4 rfl) ?_
        refine lv_aload_n hx hb dX3_adjustDecimal_92 rfl (lv_at hl 4 rfl) ?_
        refine va_get (ci := 3) (v := .ref (o 1)) (C := RX3) (T := TX3) (N := 9) hx hb hts hi3 hown hK hP 0 rfl rfl 2 (by decide) (hts (.fieldLink RX3 9 "InvaderBoard$Processor" "registers" "[I") (List.mem_cons_of_mem _ (List.mem_append_left _ (List.mem_of_getElem? (i := 0) rfl)))) (fun _ h9 => h9) rfl dX3_adjustDecimal_93 ?_
        refine lv_bipush (v := 7) hx hb dX3_adjustDecimal_96 (by decide) ?_
        refine va_iald (f := upd (a 2) (7 : Int32).toNatClampNeg ((((a 2) (7 : Int32).toNatClampNeg) + ((6 : Int32) + (96 : Int32))) &&& (255 : Int32))) hx hb hK hP 1 0 rfl rfl (by unfold vp_in; decide) dX3_adjustDecimal_98 ?_
        refine KC.callS (rest := [.ref (o 0)]) (kX3_flagsOf l D cI ((upd (a 2) (7 : Int32).toNatClampNeg ((((a 2) (7 : Int32).toNatClampNeg) + ((6 : Int32) + (96 : Int32))) &&& (255 : Int32))) (7 : Int32).toNatClampNeg)) (va_cwS 1 hts gX3_adjustDecimal_X3_flagsOf rfl rfl rfl (by decide +kernel) ⟨Nat.le_of_ble_eq_true rfl, Nat.le_of_ble_eq_true rfl⟩) ⟨hx, hb, hml, hown, hts⟩ hK hP hD hS hA rfl hl.1 rfl (Nat.le_of_ble_eq_true rfl) dX3_adjustDecimal_99 ⟨Nat.zero_le _, Nat.zero_le _⟩ (fun H locs hP hD hS => ?_)
        refine lv_iload hx hb dX3_adjustDecimal_102 (lv_at hl 0 rfl) ?_
        refine lv_ior hx hb dX3_adjustDecimal_104 ?_
        refine pu_P_f11 (v := (xFlagsOf ((upd (a 2) (7 : Int32).toNatClampNeg ((((a 2) (7 : Int32).toNatClampNeg) + ((6 : Int32) + (96 : Int32))) &&& (255 : Int32))) (7 : Int32).toNatClampNeg)) ||| ((16 : Int32) ||| (1 : Int32))) hx hb hts hi3 hown hK hP hD hS (hts (.fieldLink RX3 13 "InvaderBoard$Processor" "flags" "I") (List.mem_cons_of_mem _ (List.mem_append_left _ (List.mem_of_getElem? (i := 1) rfl)))) dX3_adjustDecimal_105 (fun H locs hP hD hS => ?_)
        have hF : xAdjustDecimal f a = (upd f 11 ((xFlagsOf ((upd (a 2) (7 : Int32).toNatClampNeg ((((a 2) (7 : Int32).toNatClampNeg) + ((6 : Int32) + (96 : Int32))) &&& (255 : Int32))) (7 : Int32).toNatClampNeg)) ||| ((16 : Int32) ||| (1 : Int32))), ua a 2 (upd (a 2) (7 : Int32).toNatClampNeg ((((a 2) (7 : Int32).toNatClampNeg) + ((6 : Int32) + (96 : Int32))) &&& (255 : Int32)))) := by
          unfold xAdjustDecimal
          refine (if_pos c_1).trans ?_
          refine (if_neg c_2).trans ?_
          refine (if_pos c_5).trans ?_
          rfl
        rw [hF]
        exact KC.retv hx hb hr hlocks hK hP hD hS dX3_adjustDecimal_108
      · refine lv_aload_n hx hb dX3_adjustDecimal_59 rfl (lv_at hl 4 rfl) ?_
        refine va_get (ci := 3) (v := .int (f 11)) (C := RX3) (T := TX3) (N := 9) hx hb hts hi3 hown hK hP 0 rfl rfl 3 (by decide) (hts (.fieldLink RX3 13 "InvaderBoard$Processor" "flags" "I") (List.mem_cons_of_mem _ (List.mem_append_left _ (List.mem_of_getElem? (i := 1) rfl)))) (fun _ h9 => h9) rfl dX3_adjustDecimal_60 ?_
        refine lv_iconst (v := 1) hx hb dX3_adjustDecimal_63 (by decide) ?_
        refine lv_iand hx hb dX3_adjustDecimal_64 ?_
        refine lv_if_eq (tgt := 77) hx hb dX3_adjustDecimal_65 (by decide) (fun c_6 => ?_) (fun c_6 => ?_)
        · refine lv_aload_n hx hb dX3_adjustDecimal_77 rfl (lv_at hl 4 rfl) ?_
          refine va_get (ci := 3) (v := .ref (o 1)) (C := RX3) (T := TX3) (N := 9) hx hb hts hi3 hown hK hP 0 rfl rfl 2 (by decide) (hts (.fieldLink RX3 9 "InvaderBoard$Processor" "registers" "[I") (List.mem_cons_of_mem _ (List.mem_append_left _ (List.mem_of_getElem? (i := 0) rfl)))) (fun _ h9 => h9) rfl dX3_adjustDecimal_78 ?_
          refine lv_bipush (v := 7) hx hb dX3_adjustDecimal_81 (by decide) ?_
          refine lv_iload_n hx hb dX3_adjustDecimal_83 rfl (lv_at hl 3 rfl) ?_
          refine lv_iload_n hx hb dX3_adjustDecimal_84 rfl (lv_at hl 1 rfl) ?_
          refine lv_iadd hx hb dX3_adjustDecimal_85 ?_
          refine lv_sipush (v := 255) hx hb dX3_adjustDecimal_86 (by decide) ?_
          refine lv_iand hx hb dX3_adjustDecimal_89 ?_
          refine pu_P_a2 hx hb hK hP hD hS (by unfold vp_in; decide) dX3_adjustDecimal_90 (fun H locs hP hD hS => ?_)
          refine lv_aload_n hx hb dX3_adjustDecimal_91 rfl (lv_at hl 4 rfl) ?_
          refine lv_aload_n hx hb dX3_adjustDecimal_92 rfl (lv_at hl 4 rfl) ?_
          refine va_get (ci := 3) (v := .ref (o 1)) (C := RX3) (T := TX3) (N := 9) hx hb hts hi3 hown hK hP 0 rfl rfl 2 (by decide) (hts (.fieldLink RX3 9 "InvaderBoard$Processor" "registers" "[I") (List.mem_cons_of_mem _ (List.mem_append_left _ (List.mem_of_getElem? (i := 0) rfl)))) (fun _ h9 => h9) rfl dX3_adjustDecimal_93 ?_
          refine lv_bipush (v := 7) hx hb dX3_adjustDecimal_96 (by decide) ?_
          refine va_iald (f := upd (a 2) (7 : Int32).toNatClampNeg ((((a 2) (7 : Int32).toNatClampNeg) + (6 : Int32)) &&& (255 : Int32))) hx hb hK hP 1 0 rfl rfl (by unfold vp_in; decide) dX3_adjustDecimal_98 ?_
          refine KC.callS (rest := [.ref (o 0)]) (kX3_flagsOf l D cI ((upd (a 2) (7 : Int32).toNatClampNeg ((((a 2) (7 : Int32).toNatClampNeg) + (6 : Int32)) &&& (255 : Int32))) (7 : Int32).toNatClampNeg)) (va_cwS 1 hts gX3_adjustDecimal_X3_flagsOf rfl rfl rfl (by decide +kernel) ⟨Nat.le_of_ble_eq_true rfl, Nat.le_of_ble_eq_true rfl⟩) ⟨hx, hb, hml, hown, hts⟩ hK hP hD hS hA rfl hl.1 rfl (Nat.le_of_ble_eq_true rfl) dX3_adjustDecimal_99 ⟨Nat.zero_le _, Nat.zero_le _⟩ (fun H locs hP hD hS => ?_)
          refine lv_iload hx hb dX3_adjustDecimal_102 (lv_at hl 0 rfl) ?_
          refine lv_ior hx hb dX3_adjustDecimal_104 ?_
          refine pu_P_f11 (v := (xFlagsOf ((upd (a 2) (7 : Int32).toNatClampNeg ((((a 2) (7 : Int32).toNatClampNeg) + (6 : Int32)) &&& (255 : Int32))) (7 : Int32).toNatClampNeg)) ||| (16 : Int32)) hx hb hts hi3 hown hK hP hD hS (hts (.fieldLink RX3 13 "InvaderBoard$Processor" "flags" "I") (List.mem_cons_of_mem _ (List.mem_append_left _ (List.mem_of_getElem? (i := 1) rfl)))) dX3_adjustDecimal_105 (fun H locs hP hD hS => ?_)
          have hF : xAdjustDecimal f a = (upd f 11 ((xFlagsOf ((upd (a 2) (7 : Int32).toNatClampNeg ((((a 2) (7 : Int32).toNatClampNeg) + (6 : Int32)) &&& (255 : Int32))) (7 : Int32).toNatClampNeg)) ||| (16 : Int32)), ua a 2 (upd (a 2) (7 : Int32).toNatClampNeg ((((a 2) (7 : Int32).toNatClampNeg) + (6 : Int32)) &&& (255 : Int32)))) := by
            unfold xAdjustDecimal
            refine (if_pos c_1).trans ?_
            refine (if_neg c_2).trans ?_
            refine (if_neg c_5).trans ?_
            refine (if_pos c_6).trans ?_
            rfl
          rw [hF]
          exact KC.retv hx hb hr hlocks hK hP hD hS dX3_adjustDecimal_108
        · refine lv_iinc (v := (6 : Int32) + (96 : Int32)) (lv' := [(3, .int _), (4, .int _), (2, .int _), (1, .int _), (0, .ref _)]) hx hb dX3_adjustDecimal_68 hl (k := 1) rfl rfl (by decide) rfl (fun ls hl => ?_)
          refine lv_iload hx hb dX3_adjustDecimal_71 (lv_at hl 1 rfl) ?_
          refine lv_iconst (v := 1) hx hb dX3_adjustDecimal_73 (by decide) ?_
          refine lv_ior hx hb dX3_adjustDecimal_74 ?_
          refine lv_istore (lv' := [(4, .int _), (3, .int _), (2, .int _), (1, .int _), (0, .ref _)]) hx hb dX3_adjustDecimal_75 hl (by decide) rfl (fun ls hl => ?_)
          refine lv_aload_n hx hb dX3_adjustDecimal_77 rfl (lv_at hl 4 rfl) ?_
          refine va_get (ci := 3) (v := .ref (o 1)) (C := RX3) (T := TX3) (N := 9) hx hb hts hi3 hown hK hP 0 rfl rfl 2 (by decide) (hts (.fieldLink RX3 9 "InvaderBoard$Processor" "registers" "[I") (List.mem_cons_of_mem _ (List.mem_append_left _ (List.mem_of_getElem? (i := 0) rfl)))) (fun _ h9 => h9) rfl dX3_adjustDecimal_78 ?_
          refine lv_bipush (v := 7) hx hb dX3_adjustDecimal_81 (by decide) ?_
          refine lv_iload_n hx hb dX3_adjustDecimal_83 rfl (lv_at hl 3 rfl) ?_
          refine lv_iload_n hx hb dX3_adjustDecimal_84 rfl (lv_at hl 1 rfl) ?_
          refine lv_iadd hx hb dX3_adjustDecimal_85 ?_
          refine lv_sipush (v := 255) hx hb dX3_adjustDecimal_86 (by decide) ?_
          refine lv_iand hx hb dX3_adjustDecimal_89 ?_
          refine pu_P_a2 hx hb hK hP hD hS (by unfold vp_in; decide) dX3_adjustDecimal_90 (fun H locs hP hD hS => ?_)
          refine lv_aload_n hx hb dX3_adjustDecimal_91 rfl (lv_at hl 4 rfl) ?_
          refine lv_aload_n hx hb dX3_adjustDecimal_92 rfl (lv_at hl 4 rfl) ?_
          refine va_get (ci := 3) (v := .ref (o 1)) (C := RX3) (T := TX3) (N := 9) hx hb hts hi3 hown hK hP 0 rfl rfl 2 (by decide) (hts (.fieldLink RX3 9 "InvaderBoard$Processor" "registers" "[I") (List.mem_cons_of_mem _ (List.mem_append_left _ (List.mem_of_getElem? (i := 0) rfl)))) (fun _ h9 => h9) rfl dX3_adjustDecimal_93 ?_
          refine lv_bipush (v := 7) hx hb dX3_adjustDecimal_96 (by decide) ?_
          refine va_iald (f := upd (a 2) (7 : Int32).toNatClampNeg ((((a 2) (7 : Int32).toNatClampNeg) + ((6 : Int32) + (96 : Int32))) &&& (255 : Int32))) hx hb hK hP 1 0 rfl rfl (by unfold vp_in; decide) dX3_adjustDecimal_98 ?_
          refine KC.callS (rest := [.ref (o 0)]) (kX3_flagsOf l D cI ((upd (a 2) (7 : Int32).toNatClampNeg ((((a 2) (7 : Int32).toNatClampNeg) + ((6 : Int32) + (96 : Int32))) &&& (255 : Int32))) (7 : Int32).toNatClampNeg)) (va_cwS 1 hts gX3_adjustDecimal_X3_flagsOf rfl rfl rfl (by decide +kernel) ⟨Nat.le_of_ble_eq_true rfl, Nat.le_of_ble_eq_true rfl⟩) ⟨hx, hb, hml, hown, hts⟩ hK hP hD hS hA rfl hl.1 rfl (Nat.le_of_ble_eq_true rfl) dX3_adjustDecimal_99 ⟨Nat.zero_le _, Nat.zero_le _⟩ (fun H locs hP hD hS => ?_)
          refine lv_iload hx hb dX3_adjustDecimal_102 (lv_at hl 0 rfl) ?_
          refine lv_ior hx hb dX3_adjustDecimal_104 ?_
          refine pu_P_f11 (v := (xFlagsOf ((upd (a 2) (7 : Int32).toNatClampNeg ((((a 2) (7 : Int32).toNatClampNeg) + ((6 : Int32) + (96 : Int32))) &&& (255 : Int32))) (7 : Int32).toNatClampNeg)) ||| ((16 : Int32) ||| (1 : Int32))) hx hb hts hi3 hown hK hP hD hS (hts (.fieldLink RX3 13 "InvaderBoard$Processor" "flags" "I") (List.mem_cons_of_mem _ (List.mem_append_left _ (List.mem_of_getElem? (i := 1) rfl)))) dX3_adjustDecimal_105 (fun H locs hP hD hS => ?_)
          have hF : xAdjustDecimal f a = (upd f 11 ((xFlagsOf ((upd (a 2) (7 : Int32).toNatClampNeg ((((a 2) (7 : Int32).toNatClampNeg) + ((6 : Int32) + (96 : Int32))) &&& (255 : Int32))) (7 : Int32).toNatClampNeg)) ||| ((16 : Int32) ||| (1 : Int32))), ua a 2 (upd (a 2) (7 : Int32).toNatClampNeg ((((a 2) (7 : Int32).toNatClampNeg) + ((6 : Int32) + (96 : Int32))) &&& (255 : Int32)))) := by
            unfold xAdjustDecimal
            refine (if_pos c_1).trans ?_
            refine (if_neg c_2).trans ?_
            refine (if_neg c_5).trans ?_
            refine (if_neg c_6).trans ?_
            rfl
          rw [hF]
          exact KC.retv hx hb hr hlocks hK hP hD hS dX3_adjustDecimal_108
  · refine lv_aload_n hx hb dX3_adjustDecimal_19 rfl (lv_at hl 2 rfl) ?_
    refine va_get (ci := 3) (v := .int (f 11)) (C := RX3) (T := TX3) (N := 9) hx hb hts hi3 hown hK hP 0 rfl rfl 3 (by decide) (hts (.fieldLink RX3 13 "InvaderBoard$Processor" "flags" "I") (List.mem_cons_of_mem _ (List.mem_append_left _ (List.mem_of_getElem? (i := 1) rfl)))) (fun _ h9 => h9) rfl dX3_adjustDecimal_20 ?_
    refine lv_bipush (v := 16) hx hb dX3_adjustDecimal_23 (by decide) ?_
    refine lv_iand hx hb dX3_adjustDecimal_25 ?_
    refine lv_if_eq (tgt := 34) hx hb dX3_adjustDecimal_26 (by decide) (fun c_7 => ?_) (fun c_7 => ?_)
    · refine lv_iconst (v := 0) hx hb dX3_adjustDecimal_34 (by decide) ?_
      refine lv_istore_n (lv' := [(3, .int _), (2, .int _), (1, .int _), (0, .ref _)]) hx hb dX3_adjustDecimal_35 rfl hl (by decide) rfl (fun ls hl => ?_)
      refine lv_iload_n hx hb dX3_adjustDecimal_36 rfl (lv_at hl 1 rfl) ?_
      refine lv_iload_n hx hb dX3_adjustDecimal_37 rfl (lv_at hl 0 rfl) ?_
      refine lv_iadd hx hb dX3_adjustDecimal_38 ?_
      refine lv_bipush (v := 15) hx hb dX3_adjustDecimal_39 (by decide) ?_
      refine lv_icmp_le (tgt := 49) hx hb dX3_adjustDecimal_41 (by decide) (fun c_8 => ?_) (fun c_8 => ?_)
      · refine lv_iconst (v := 0) hx hb dX3_adjustDecimal_49 (by decide) ?_
        refine lv_istore (lv' := [(4, .int _), (3, .int _), (2, .int _), (1, .int _), (0, .ref _)]) hx hb dX3_adjustDecimal_50 hl (by decide) rfl (fun ls hl => ?_)
        refine lv_iload_n hx hb dX3_adjustDecimal_52 rfl (lv_at hl 3 rfl) ?_
        refine lv_sipush (v := 153) hx hb dX3_adjustDecimal_53 (by decide) ?_
        refine lv_icmp_gt (tgt := 68) hx hb dX3_adjustDecimal_56 (by decide) (fun c_9 => ?_) (fun c_9 => ?_)
        · refine lv_iinc (v := (0 : Int32) + (96 : Int32)) (lv' := [(3, .int _), (4, .int _), (2, .int _), (1, .int _), (0, .ref _)]) hx hb dX3_adjustDecimal_68 hl (k := 1) rfl rfl (by decide) rfl (fun ls hl => ?_)
          refine lv_iload hx hb dX3_adjustDecimal_71 (lv_at hl 1 rfl) ?_
          refine lv_iconst (v := 1) hx hb dX3_adjustDecimal_73 (by decide) ?_
          refine lv_ior hx hb dX3_adjustDecimal_74 ?_
          refine lv_istore (lv' := [(4, .int _), (3, .int _), (2, .int _), (1, .int _), (0, .ref _)]) hx hb dX3_adjustDecimal_75 hl (by decide) rfl (fun ls hl => ?_)
          refine lv_aload_n hx hb dX3_adjustDecimal_77 rfl (lv_at hl 4 rfl) ?_
          refine va_get (ci := 3) (v := .ref (o 1)) (C := RX3) (T := TX3) (N := 9) hx hb hts hi3 hown hK hP 0 rfl rfl 2 (by decide) (hts (.fieldLink RX3 9 "InvaderBoard$Processor" "registers" "[I") (List.mem_cons_of_mem _ (List.mem_append_left _ (List.mem_of_getElem? (i := 0) rfl)))) (fun _ h9 => h9) rfl dX3_adjustDecimal_78 ?_
          refine lv_bipush (v := 7) hx hb dX3_adjustDecimal_81 (by decide) ?_
          refine lv_iload_n hx hb dX3_adjustDecimal_83 rfl (lv_at hl 3 rfl) ?_
          refine lv_iload_n hx hb dX3_adjustDecimal_84 rfl (lv_at hl 1 rfl) ?_
          refine lv_iadd hx hb dX3_adjustDecimal_85 ?_
          refine lv_sipush (v := 255) hx hb dX3_adjustDecimal_86 (by decide) ?_
          refine lv_iand hx hb dX3_adjustDecimal_89 ?_
          refine pu_P_a2 hx hb hK hP hD hS (by unfold vp_in; decide) dX3_adjustDecimal_90 (fun H locs hP hD hS => ?_)
          refine lv_aload_n hx hb dX3_adjustDecimal_91 rfl (lv_at hl 4 rfl) ?_
          refine lv_aload_n hx hb dX3_adjustDecimal_92 rfl (lv_at hl 4 rfl) ?_
          refine va_get (ci := 3) (v := .ref (o 1)) (C := RX3) (T := TX3) (N := 9) hx hb hts hi3 hown hK hP 0 rfl rfl 2 (by decide) (hts (.fieldLink RX3 9 "InvaderBoard$Processor" "registers" "[I") (List.mem_cons_of_mem _ (List.mem_append_left _ (List.mem_of_getElem? (i := 0) rfl)))) (fun _ h9 => h9) rfl dX3_adjustDecimal_93 ?_
          refine lv_bipush (v := 7) hx hb dX3_adjustDecimal_96 (by decide) ?_
          refine va_iald (f := upd (a 2) (7 : Int32).toNatClampNeg ((((a 2) (7 : Int32).toNatClampNeg) + ((0 : Int32) + (96 : Int32))) &&& (255 : Int32))) hx hb hK hP 1 0 rfl rfl (by unfold vp_in; decide) dX3_adjustDecimal_98 ?_
          refine KC.callS (rest := [.ref (o 0)]) (kX3_flagsOf l D cI ((upd (a 2) (7 : Int32).toNatClampNeg ((((a 2) (7 : Int32).toNatClampNeg) + ((0 : Int32) + (96 : Int32))) &&& (255 : Int32))) (7 : Int32).toNatClampNeg)) (va_cwS 1 hts gX3_adjustDecimal_X3_flagsOf rfl rfl rfl (by decide +kernel) ⟨Nat.le_of_ble_eq_true rfl, Nat.le_of_ble_eq_true rfl⟩) ⟨hx, hb, hml, hown, hts⟩ hK hP hD hS hA rfl hl.1 rfl (Nat.le_of_ble_eq_true rfl) dX3_adjustDecimal_99 ⟨Nat.zero_le _, Nat.zero_le _⟩ (fun H locs hP hD hS => ?_)
          refine lv_iload hx hb dX3_adjustDecimal_102 (lv_at hl 0 rfl) ?_
          refine lv_ior hx hb dX3_adjustDecimal_104 ?_
          refine pu_P_f11 (v := (xFlagsOf ((upd (a 2) (7 : Int32).toNatClampNeg ((((a 2) (7 : Int32).toNatClampNeg) + ((0 : Int32) + (96 : Int32))) &&& (255 : Int32))) (7 : Int32).toNatClampNeg)) ||| ((0 : Int32) ||| (1 : Int32))) hx hb hts hi3 hown hK hP hD hS (hts (.fieldLink RX3 13 "InvaderBoard$Processor" "flags" "I") (List.mem_cons_of_mem _ (List.mem_append_left _ (List.mem_of_getElem? (i := 1) rfl)))) dX3_adjustDecimal_105 (fun H locs hP hD hS => ?_)
          have hF : xAdjustDecimal f a = (upd f 11 ((xFlagsOf ((upd (a 2) (7 : Int32).toNatClampNeg ((((a 2) (7 : Int32).toNatClampNeg) + ((0 : Int32) + (96 : Int32))) &&& (255 : Int32))) (7 : Int32).toNatClampNeg)) ||| ((0 : Int32) ||| (1 : Int32))), ua a 2 (upd (a 2) (7 : Int32).toNatClampNeg ((((a 2) (7 : Int32).toNatClampNeg) + ((0 : Int32) + (96 : Int32))) &&& (255 : Int32)))) := by
            unfold xAdjustDecimal
            refine (if_neg c_1).trans ?_
            refine (if_pos c_7).trans ?_
            refine (if_pos c_8).trans ?_
            refine (if_pos c_9).trans ?_
            rfl
          rw [hF]
          exact KC.retv hx hb hr hlocks hK hP hD hS dX3_adjustDecimal_108
        · refine lv_aload_n hx hb dX3_adjustDecimal_59 rfl (lv_at hl 4 rfl) ?_
          refine va_get (ci := 3) (v := .int (f 11)) (C := RX3) (T := TX3) (N := 9) hx hb hts hi3 hown hK hP 0 rfl rfl 3 (by decide) (hts (.fieldLink RX3 13 "InvaderBoard$Processor" "flags" "I") (List.mem_cons_of_mem _ (List.mem_append_left _ (List.mem_of_getElem? (i := 1) rfl)))) (fun _ h9 => h9) rfl dX3_adjustDecimal_60 ?_
          refine lv_iconst (v := 1) hx hb dX3_adjustDecimal_63 (by decide) ?_
          refine lv_iand hx hb dX3_adjustDecimal_64 ?_
          refine lv_if_eq (tgt := 77) hx hb dX3_adjustDecimal_65 (by decide) (fun c_10 => ?_) (fun c_10 => ?_)
          · refine lv_aload_n hx hb dX3_adjustDecimal_77 rfl (lv_at hl 4 rfl) ?_
            refine va_get (ci := 3) (v := .ref (o 1)) (C := RX3) (T := TX3) (N := 9) hx hb hts hi3 hown hK hP 0 rfl rfl 2 (by decide) (hts (.fieldLink RX3 9 "InvaderBoard$Processor" "registers" "[I") (List.mem_cons_of_mem _ (List.mem_append_left _ (List.mem_of_getElem? (i := 0) rfl)))) (fun _ h9 => h9) rfl dX3_adjustDecimal_78 ?_
            refine lv_bipush (v := 7) hx hb dX3_adjustDecimal_81 (by decide) ?_
            refine lv_iload_n hx hb dX3_adjustDecimal_83 rfl (lv_at hl 3 rfl) ?_
            refine lv_iload_n hx hb dX3_adjustDecimal_84 rfl (lv_at hl 1 rfl) ?_
            refine lv_iadd hx hb dX3_adjustDecimal_85 ?_
            refine lv_sipush (v := 255) hx hb dX3_adjustDecimal_86 (by decide) ?_
            refine lv_iand hx hb dX3_adjustDecimal_89 ?_
            refine pu_P_a2 hx hb hK hP hD hS (by unfold vp_in; decide) dX3_adjustDecimal_90 (fun H locs hP hD hS => ?_)
            refine lv_aload_n hx hb dX3_adjustDecimal_91 rfl (lv_at hl 4 rfl) ?_
            refine lv_aload_n hx hb dX3_adjustDecimal_92 rfl (lv_at hl 4 rfl) ?_
            refine va_get (ci := 3) (v := .ref (o 1)) (C := RX3) (T := TX3) (N := 9) hx hb hts hi3 hown hK hP 0 rfl rfl 2 (by decide) (hts (.fieldLink RX3 9 "InvaderBoard$Processor" "registers" "[I") (List.mem_cons_of_mem _ (List.mem_append_left _ (List.mem_of_getElem? (i := 0) rfl)))) (fun _ h9 => h9) rfl dX3_adjustDecimal_93 ?_
            refine lv_bipush (v := 7) hx hb dX3_adjustDecimal_96 (by decide) ?_
            refine va_iald (f := upd (a 2) (7 : Int32).toNatClampNeg ((((a 2) (7 : Int32).toNatClampNeg) + (0 : Int32)) &&& (255 : Int32))) hx hb hK hP 1 0 rfl rfl (by unfold vp_in; decide) dX3_adjustDecimal_98 ?_
            refine KC.callS (rest := [.ref (o 0)]) (kX3_flagsOf l D cI ((upd (a 2) (7 : Int32).toNatClampNeg ((((a 2) (7 : Int32).toNatClampNeg) + (0 : Int32)) &&& (255 : Int32))) (7 : Int32).toNatClampNeg)) (va_cwS 1 hts gX3_adjustDecimal_X3_flagsOf rfl rfl rfl (by decide +kernel) ⟨Nat.le_of_ble_eq_true rfl, Nat.le_of_ble_eq_true rfl⟩) ⟨hx, hb, hml, hown, hts⟩ hK hP hD hS hA rfl hl.1 rfl (Nat.le_of_ble_eq_true rfl) dX3_adjustDecimal_99 ⟨Nat.zero_le _, Nat.zero_le _⟩ (fun H locs hP hD hS => ?_)
            refine lv_iload hx hb dX3_adjustDecimal_102 (lv_at hl 0 rfl) ?_
            refine lv_ior hx hb dX3_adjustDecimal_104 ?_
            refine pu_P_f11 (v := (xFlagsOf ((upd (a 2) (7 : Int32).toNatClampNeg ((((a 2) (7 : Int32).toNatClampNeg) + (0 : Int32)) &&& (255 : Int32))) (7 : Int32).toNatClampNeg)) ||| (0 : Int32)) hx hb hts hi3 hown hK hP hD hS (hts (.fieldLink RX3 13 "InvaderBoard$Processor" "flags" "I") (List.mem_cons_of_mem _ (List.mem_append_left _ (List.mem_of_getElem? (i := 1) rfl)))) dX3_adjustDecimal_105 (fun H locs hP hD hS => ?_)
            have hF : xAdjustDecimal f a = (upd f 11 ((xFlagsOf ((upd (a 2) (7 : Int32).toNatClampNeg ((((a 2) (7 : Int32).toNatClampNeg) + (0 : Int32)) &&& (255 : Int32))) (7 : Int32).toNatClampNeg)) ||| (0 : Int32)), ua a 2 (upd (a 2) (7 : Int32).toNatClampNeg ((((a 2) (7 : Int32).toNatClampNeg) + (0 : Int32)) &&& (255 : Int32)))) := by
              unfold xAdjustDecimal
              refine (if_neg c_1).trans ?_
              refine (if_pos c_7).trans ?_
              refine (if_pos c_8).trans ?_
              refine (if_neg c_9).trans ?_
              refine (if_pos c_10).trans ?_
              rfl
            rw [hF]
            exact KC.retv hx hb hr hlocks hK hP hD hS dX3_adjustDecimal_108
          · refine lv_iinc (v := (0 : Int32) + (96 : Int32)) (lv' := [(3, .int _), (4, .int _), (2, .int _), (1, .int _), (0, .ref _)]) hx hb dX3_adjustDecimal_68 hl (k := 1) rfl rfl (by decide) rfl (fun ls hl => ?_)
            refine lv_iload hx hb dX3_adjustDecimal_71 (lv_at hl 1 rfl) ?_
            refine lv_iconst (v := 1) hx hb dX3_adjustDecimal_73 (by decide) ?_
            refine lv_ior hx hb dX3_adjustDecimal_74 ?_
            refine lv_istore (lv' := [(4, .int _), (3, .int _), (2, .int _), (1, .int _), (0, .ref _)]) hx hb dX3_adjustDecimal_75 hl (by decide) rfl (fun ls hl => ?_)
            refine lv_aload_n hx hb dX3_adjustDecimal_77 rfl (lv_at hl 4 rfl) ?_
            refine va_get (ci := 3) (v := .ref (o 1)) (C := RX3) (T := TX3) (N := 9) hx hb hts hi3 hown hK hP 0 rfl rfl 2 (by decide) (hts (.fieldLink RX3 9 "InvaderBoard$Processor" "registers" "[I") (List.mem_cons_of_mem _ (List.mem_append_left _ (List.mem_of_getElem? (i := 0) rfl)))) (fun _ h9 => h9) rfl dX3_adjustDecimal_78 ?_
            refine lv_bipush (v := 7) hx hb dX3_adjustDecimal_81 (by decide) ?_
            refine lv_iload_n hx hb dX3_adjustDecimal_83 rfl (lv_at hl 3 rfl) ?_
            refine lv_iload_n hx hb dX3_adjustDecimal_84 rfl (lv_at hl 1 rfl) ?_
            refine lv_iadd hx hb dX3_adjustDecimal_85 ?_
            refine lv_sipush (v := 255) hx hb dX3_adjustDecimal_86 (by decide) ?_
            refine lv_iand hx hb dX3_adjustDecimal_89 ?_
            refine pu_P_a2 hx hb hK hP hD hS (by unfold vp_in; decide) dX3_adjustDecimal_90 (fun H locs hP hD hS => ?_)
            refine lv_aload_n hx hb dX3_adjustDecimal_91 rfl (lv_at hl 4 rfl) ?_
            refine lv_aload_n hx hb dX3_adjustDecimal_92 rfl (lv_at hl 4 rfl) ?_
            refine va_get (ci := 3) (v := .ref (o 1)) (C := RX3) (T := TX3) (N := 9) hx hb hts hi3 hown hK hP 0 rfl rfl 2 (by decide) (hts (.fieldLink RX3 9 "InvaderBoard$Processor" "registers" "[I") (List.mem_cons_of_mem _ (List.mem_append_left _ (List.mem_of_getElem? (i := 0) rfl)))) (fun _ h9 => h9) rfl dX3_adjustDecimal_93 ?_
            refine lv_bipush (v := 7) hx hb dX3_adjustDecimal_96 (by decide) ?_
            refine va_iald (f := upd (a 2) (7 : Int32).toNatClampNeg ((((a 2) (7 : Int32).toNatClampNeg) + ((0 : Int32) + (96 : Int32))) &&& (255 : Int32))) hx hb hK hP 1 0 rfl rfl (by unfold vp_in; decide) dX3_adjustDecimal_98 ?_
            refine KC.callS (rest := [.ref (o 0)]) (kX3_flagsOf l D cI ((upd (a 2) (7 : Int32).toNatClampNeg ((((a 2) (7 : Int32).toNatClampNeg) + ((0 : Int32) + (96 : Int32))) &&& (255 : Int32))) (7 : Int32).toNatClampNeg)) (va_cwS 1 hts gX3_adjustDecimal_X3_flagsOf rfl rfl rfl (by decide +kernel) ⟨Nat.le_of_ble_eq_true rfl, Nat.le_of_ble_eq_true rfl⟩) ⟨hx, hb, hml, hown, hts⟩ hK hP hD hS hA rfl hl.1 rfl (Nat.le_of_ble_eq_true rfl) dX3_adjustDecimal_99 ⟨Nat.zero_le _, Nat.zero_le _⟩ (fun H locs hP hD hS => ?_)
            refine lv_iload hx hb dX3_adjustDecimal_102 (lv_at hl 0 rfl) ?_
            refine lv_ior hx hb dX3_adjustDecimal_104 ?_
            refine pu_P_f11 (v := (xFlagsOf ((upd (a 2) (7 : Int32).toNatClampNeg ((((a 2) (7 : Int32).toNatClampNeg) + ((0 : Int32) + (96 : Int32))) &&& (255 : Int32))) (7 : Int32).toNatClampNeg)) ||| ((0 : Int32) ||| (1 : Int32))) hx hb hts hi3 hown hK hP hD hS (hts (.fieldLink RX3 13 "InvaderBoard$Processor" "flags" "I") (List.mem_cons_of_mem _ (List.mem_append_left _ (List.mem_of_getElem? (i := 1) rfl)))) dX3_adjustDecimal_105 (fun H locs hP hD hS => ?_)
            have hF : xAdjustDecimal f a = (upd f 11 ((xFlagsOf ((upd (a 2) (7 : Int32).toNatClampNeg ((((a 2) (7 : Int32).toNatClampNeg) + ((0 : Int32) + (96 : Int32))) &&& (255 : Int32))) (7 : Int32).toNatClampNeg)) ||| ((0 : Int32) ||| (1 : Int32))), ua a 2 (upd (a 2) (7 : Int32).toNatClampNeg ((((a 2) (7 : Int32).toNatClampNeg) + ((0 : Int32) + (96 : Int32))) &&& (255 : Int32)))) := by
              unfold xAdjustDecimal
              refine (if_neg c_1).trans ?_
              refine (if_pos c_7).trans ?_
              refine (if_pos c_8).trans ?_
              refine (if_neg c_9).trans ?_
              refine (if_neg c_10).trans ?_
              rfl
            rw [hF]
            exact KC.retv hx hb hr hlocks hK hP hD hS dX3_adjustDecimal_108
      · refine lv_bipush (v := 16) hx hb dX3_adjustDecimal_44 (by decide) ?_
        refine lv_goto (tgt := 50) hx hb dX3_adjustDecimal_46 (by decide) ?_
        refine lv_istore (lv' := [(4, .int _), (3, .int _), (2, .int _), (1, .int _), (0, .ref _)]) hx hb dX3_adjustDecimal_50 hl (by decide) rfl (fun ls hl => ?_)
        refine lv_iload_n hx hb dX3_adjustDecimal_52 rfl (lv_at hl 3 rfl) ?_
        refine lv_sipush (v := 153) hx hb dX3_adjustDecimal_53 (by decide) ?_
        refine lv_icmp_gt (tgt := 68) hx hb dX3_adjustDecimal_56 (by decide) (fun c_11 => ?_) (fun c_11 => ?_)
        · refine lv_iinc (v := (0 : Int32) + (96 : Int32)) (lv' := [(3, .int _), (4, .int _), (2, .int _), (1, .int _), (0, .ref _)]) hx hb dX3_adjustDecimal_68 hl (k := 1) rfl rfl (by decide) rfl (fun ls hl => ?_)
          refine lv_iload hx hb dX3_adjustDecimal_71 (lv_at hl 1 rfl) ?_
          refine lv_iconst (v := 1) hx hb dX3_adjustDecimal_73 (by decide) ?_
          refine lv_ior hx hb dX3_adjustDecimal_74 ?_
          refine lv_istore (lv' := [(4, .int _), (3, .int _), (2, .int _), (1, .int _), (0, .ref _)]) hx hb dX3_adjustDecimal_75 hl (by decide) rfl (fun ls hl => ?_)
          refine lv_aload_n hx hb dX3_adjustDecimal_77 rfl (lv_at hl 4 rfl) ?_
          refine va_get (ci := 3) (v := .ref (o 1)) (C := RX3) (T := TX3) (N := 9) hx hb hts hi3 hown hK hP 0 rfl rfl 2 (by decide) (hts (.fieldLink RX3 9 "InvaderBoard$Processor" "registers" "[I") (List.mem_cons_of_mem _ (List.mem_append_left _ (List.mem_of_getElem? (i := 0) rfl)))) (fun _ h9 => h9) rfl dX3_adjustDecimal_78 ?_
          refine lv_bipush (v := 7) hx hb dX3_adjustDecimal_81 (by decide) ?_
          refine lv_iload_n hx hb dX3_adjustDecimal_83 rfl (lv_at hl 3 rfl) ?_
          refine lv_iload_n hx hb dX3_adjustDecimal_84 rfl (lv_at hl 1 rfl) ?_
          refine lv_iadd hx hb dX3_adjustDecimal_85 ?_
          refine lv_sipush (v := 255) hx hb dX3_adjustDecimal_86 (by decide) ?_
          refine lv_iand hx hb dX3_adjustDecimal_89 ?_
          refine pu_P_a2 hx hb hK hP hD hS (by unfold vp_in; decide) dX3_adjustDecimal_90 (fun H locs hP hD hS => ?_)
          refine lv_aload_n hx hb dX3_adjustDecimal_91 rfl (lv_at hl 4 rfl) ?_
          refine lv_aload_n hx hb dX3_adjustDecimal_92 rfl (lv_at hl 4 rfl) ?_
          refine va_get (ci := 3) (v := .ref (o 1)) (C := RX3) (T := TX3) (N := 9) hx hb hts hi3 hown hK hP 0 rfl rfl 2 (by decide) (hts (.fieldLink RX3 9 "InvaderBoard$Processor" "registers" "[I") (List.mem_cons_of_mem _ (List.mem_append_left _ (List.mem_of_getElem? (i := 0) rfl)))) (fun _ h9 => h9) rfl dX3_adjustDecimal_93 ?_
          refine lv_bipush (v := 7) hx hb dX3_adjustDecimal_96 (by decide) ?_
          refine va_iald (f := upd (a 2) (7 : Int32).toNatClampNeg ((((a 2) (7 : Int32).toNatClampNeg) + ((0 : Int32) + (96 : Int32))) &&& (255 : Int32))) hx hb hK hP 1 0 rfl rfl (by unfold vp_in; decide) dX3_adjustDecimal_98 ?_
          refine KC.callS (rest := [.ref (o 0)]) (kX3_flagsOf l D cI ((upd (a 2) (7 : Int32).toNatClampNeg ((((a 2) (7 : Int32).toNatClampNeg) + ((0 : Int32) + (96 : Int32))) &&& (255 : Int32))) (7 : Int32).toNatClampNeg)) (va_cwS 1 hts gX3_adjustDecimal_X3_flagsOf rfl rfl rfl (by decide +kernel) ⟨Nat.le_of_ble_eq_true rfl, Nat.le_of_ble_eq_true rfl⟩) ⟨hx, hb, hml, hown, hts⟩ hK hP hD hS hA rfl hl.1 rfl (Nat.le_of_ble_eq_true rfl) dX3_adjustDecimal_99 ⟨Nat.zero_le _, Nat.zero_le _⟩ (fun H locs hP hD hS => ?_)
          refine lv_iload hx hb dX3_adjustDecimal_102 (lv_at hl 0 rfl) ?_
          refine lv_ior hx hb dX3_adjustDecimal_104 ?_
          refine pu_P_f11 (v := (xFlagsOf ((upd (a 2) (7 : Int32).toNatClampNeg ((((a 2) (7 : Int32).toNatClampNeg) + ((0 : Int32) + (96 : Int32))) &&& (255 : Int32))) (7 : Int32).toNatClampNeg)) ||| ((16 : Int32) ||| (1 : Int32))) hx hb hts hi3 hown hK hP hD hS (hts (.fieldLink RX3 13 "InvaderBoard$Processor" "flags" "I") (List.mem_cons_of_mem _ (List.mem_append_left _ (List.mem_of_getElem? (i := 1) rfl)))) dX3_adjustDecimal_105 (fun H locs hP hD hS => ?_)
          have hF : xAdjustDecimal f a = (upd f 11 ((xFlagsOf ((upd (a 2) (7 : Int32).toNatClampNeg ((((a 2) (7 : Int32).toNatClampNeg) + ((0 : Int32) + (96 : Int32))) &&& (255 : Int32))) (7 : Int32).toNatClampNeg)) ||| ((16 : Int32) ||| (1 : Int32))), ua a 2 (upd (a 2) (7 : Int32).toNatClampNeg ((((a 2) (7 : Int32).toNatClampNeg) + ((0 : Int32) + (96 : Int32))) &&& (255 : Int32)))) := by
            unfold xAdjustDecimal
            refine (if_neg c_1).trans ?_
            refine (if_pos c_7).trans ?_
            refine (if_neg c_8).trans ?_
            refine (if_pos c_11).trans ?_
            rfl
          rw [hF]
          exact KC.retv hx hb hr hlocks hK hP hD hS dX3_adjustDecimal_108
        · refine lv_aload_n hx hb dX3_adjustDecimal_59 rfl (lv_at hl 4 rfl) ?_
          refine va_get (ci := 3) (v := .int (f 11)) (C := RX3) (T := TX3) (N := 9) hx hb hts hi3 hown hK hP 0 rfl rfl 3 (by decide) (hts (.fieldLink RX3 13 "InvaderBoard$Processor" "flags" "I") (List.mem_cons_of_mem _ (List.mem_append_left _ (List.mem_of_getElem? (i := 1) rfl)))) (fun _ h9 => h9) rfl dX3_adjustDecimal_60 ?_
          refine lv_iconst (v := 1) hx hb dX3_adjustDecimal_63 (by decide) ?_
          refine lv_iand hx hb dX3_adjustDecimal_64 ?_
          refine lv_if_eq (tgt := 77) hx hb dX3_adjustDecimal_65 (by decide) (fun c_12 => ?_) (fun c_12 => ?_)
          · refine lv_aload_n hx hb dX3_adjustDecimal_77 rfl (lv_at hl 4 rfl) ?_
            refine va_get (ci := 3) (v := .ref (o 1)) (C := RX3) (T := TX3) (N := 9) hx hb hts hi3 hown hK hP 0 rfl rfl 2 (by decide) (hts (.fieldLink RX3 9 "InvaderBoard$Processor" "registers" "[I") (List.mem_cons_of_mem _ (List.mem_append_left _ (List.mem_of_getElem? (i := 0) rfl)))) (fun _ h9 => h9) rfl dX3_adjustDecimal_78 ?_
            refine lv_bipush (v := 7) hx hb dX3_adjustDecimal_81 (by decide) ?_
            refine lv_iload_n hx hb dX3_adjustDecimal_83 rfl (lv_at hl 3 rfl) ?_
            refine lv_iload_n hx hb dX3_adjustDecimal_84 rfl (lv_at hl 1 rfl) ?_
            refine lv_iadd hx hb dX3_adjustDecimal_85 ?_
            refine lv_sipush (v := 255) hx hb dX3_adjustDecimal_86 (by decide) ?_
            refine lv_iand hx hb dX3_adjustDecimal_89 ?_
            refine pu_P_a2 hx hb hK hP hD hS (by unfold vp_in; decide) dX3_adjustDecimal_90 (fun H locs hP hD hS => ?_)
            refine lv_aload_n hx hb dX3_adjustDecimal_91 rfl (lv_at hl 4 rfl) ?_
            refine lv_aload_n hx hb dX3_adjustDecimal_92 rfl (lv_at hl 4 rfl) ?_
            refine va_get (ci := 3) (v := .ref (o 1)) (C := RX3) (T := TX3) (N := 9) hx hb hts hi3 hown hK hP 0 rfl rfl 2 (by decide) (hts (.fieldLink RX3 9 "InvaderBoard$Processor" "registers" "[I") (List.mem_cons_of_mem _ (List.mem_append_left _ (List.mem_of_getElem? (i := 0) rfl)))) (fun _ h9 => h9) rfl dX3_adjustDecimal_93 ?_
            refine lv_bipush (v := 7) hx hb dX3_adjustDecimal_96 (by decide) ?_
            refine va_iald (f := upd (a 2) (7 : Int32).toNatClampNeg ((((a 2) (7 : Int32).toNatClampNeg) + (0 : Int32)) &&& (255 : Int32))) hx hb hK hP 1 0 rfl rfl (by unfold vp_in; decide) dX3_adjustDecimal_98 ?_
            refine KC.callS (rest := [.ref (o 0)]) (kX3_flagsOf l D cI ((upd (a 2) (7 : Int32).toNatClampNeg ((((a 2) (7 : Int32).toNatClampNeg) + (0 : Int32)) &&& (255 : Int32))) (7 : Int32).toNatClampNeg)) (va_cwS 1 hts gX3_adjustDecimal_X3_flagsOf rfl rfl rfl (by decide +kernel) ⟨Nat.le_of_ble_eq_true rfl, Nat.le_of_ble_eq_true rfl⟩) ⟨hx, hb, hml, hown, hts⟩ hK hP hD hS hA rfl hl.1 rfl (Nat.le_of_ble_eq_true rfl) dX3_adjustDecimal_99 ⟨Nat.zero_le _, Nat.zero_le _⟩ (fun H locs hP hD hS => ?_)
            refine lv_iload hx hb dX3_adjustDecimal_102 (lv_at hl 0 rfl) ?_
            refine lv_ior hx hb dX3_adjustDecimal_104 ?_
            refine pu_P_f11 (v := (xFlagsOf ((upd (a 2) (7 : Int32).toNatClampNeg ((((a 2) (7 : Int32).toNatClampNeg) + (0 : Int32)) &&& (255 : Int32))) (7 : Int32).toNatClampNeg)) ||| (16 : Int32)) hx hb hts hi3 hown hK hP hD hS (hts (.fieldLink RX3 13 "InvaderBoard$Processor" "flags" "I") (List.mem_cons_of_mem _ (List.mem_append_left _ (List.mem_of_getElem? (i := 1) rfl)))) dX3_adjustDecimal_105 (fun H locs hP hD hS => ?_)
            have hF : xAdjustDecimal f a = (upd f 11 ((xFlagsOf ((upd (a 2) (7 : Int32).toNatClampNeg ((((a 2) (7 : Int32).toNatClampNeg) + (0 : Int32)) &&& (255 : Int32))) (7 : Int32).toNatClampNeg)) ||| (16 : Int32)), ua a 2 (upd (a 2) (7 : Int32).toNatClampNeg ((((a 2) (7 : Int32).toNatClampNeg) + (0 : Int32)) &&& (255 : Int32)))) := by
              unfold xAdjustDecimal
              refine (if_neg c_1).trans ?_
              refine (if_pos c_7).trans ?_
              refine (if_neg c_8).trans ?_
              refine (if_neg c_11).trans ?_
              refine (if_pos c_12).trans ?_
              rfl
            rw [hF]
            exact KC.retv hx hb hr hlocks hK hP hD hS dX3_adjustDecimal_108
          · refine lv_iinc (v := (0 : Int32) + (96 : Int32)) (lv' := [(3, .int _), (4, .int _), (2, .int _), (1, .int _), (0, .ref _)]) hx hb dX3_adjustDecimal_68 hl (k := 1) rfl rfl (by decide) rfl (fun ls hl => ?_)
            refine lv_iload hx hb dX3_adjustDecimal_71 (lv_at hl 1 rfl) ?_
            refine lv_iconst (v := 1) hx hb dX3_adjustDecimal_73 (by decide) ?_
            refine lv_ior hx hb dX3_adjustDecimal_74 ?_
            refine lv_istore (lv' := [(4, .int _), (3, .int _), (2, .int _), (1, .int _), (0, .ref _)]) hx hb dX3_adjustDecimal_75 hl (by decide) rfl (fun ls hl => ?_)
            refine lv_aload_n hx hb dX3_adjustDecimal_77 rfl (lv_at hl 4 rfl) ?_
            refine va_get (ci := 3) (v := .ref (o 1)) (C := RX3) (T := TX3) (N := 9) hx hb hts hi3 hown hK hP 0 rfl rfl 2 (by decide) (hts (.fieldLink RX3 9 "InvaderBoard$Processor" "registers" "[I") (List.mem_cons_of_mem _ (List.mem_append_left _ (List.mem_of_getElem? (i := 0) rfl)))) (fun _ h9 => h9) rfl dX3_adjustDecimal_78 ?_
            refine lv_bipush (v := 7) hx hb dX3_adjustDecimal_81 (by decide) ?_
            refine lv_iload_n hx hb dX3_adjustDecimal_83 rfl (lv_at hl 3 rfl) ?_
            refine lv_iload_n hx hb dX3_adjustDecimal_84 rfl (lv_at hl 1 rfl) ?_
            refine lv_iadd hx hb dX3_adjustDecimal_85 ?_
            refine lv_sipush (v := 255) hx hb dX3_adjustDecimal_86 (by decide) ?_
            refine lv_iand hx hb dX3_adjustDecimal_89 ?_
            refine pu_P_a2 hx hb hK hP hD hS (by unfold vp_in; decide) dX3_adjustDecimal_90 (fun H locs hP hD hS => ?_)
            refine lv_aload_n hx hb dX3_adjustDecimal_91 rfl (lv_at hl 4 rfl) ?_
            refine lv_aload_n hx hb dX3_adjustDecimal_92 rfl (lv_at hl 4 rfl) ?_
            refine va_get (ci := 3) (v := .ref (o 1)) (C := RX3) (T := TX3) (N := 9) hx hb hts hi3 hown hK hP 0 rfl rfl 2 (by decide) (hts (.fieldLink RX3 9 "InvaderBoard$Processor" "registers" "[I") (List.mem_cons_of_mem _ (List.mem_append_left _ (List.mem_of_getElem? (i := 0) rfl)))) (fun _ h9 => h9) rfl dX3_adjustDecimal_93 ?_
            refine lv_bipush (v := 7) hx hb dX3_adjustDecimal_96 (by decide) ?_
            refine va_iald (f := upd (a 2) (7 : Int32).toNatClampNeg ((((a 2) (7 : Int32).toNatClampNeg) + ((0 : Int32) + (96 : Int32))) &&& (255 : Int32))) hx hb hK hP 1 0 rfl rfl (by unfold vp_in; decide) dX3_adjustDecimal_98 ?_
            refine KC.callS (rest := [.ref (o 0)]) (kX3_flagsOf l D cI ((upd (a 2) (7 : Int32).toNatClampNeg ((((a 2) (7 : Int32).toNatClampNeg) + ((0 : Int32) + (96 : Int32))) &&& (255 : Int32))) (7 : Int32).toNatClampNeg)) (va_cwS 1 hts gX3_adjustDecimal_X3_flagsOf rfl rfl rfl (by decide +kernel) ⟨Nat.le_of_ble_eq_true rfl, Nat.le_of_ble_eq_true rfl⟩) ⟨hx, hb, hml, hown, hts⟩ hK hP hD hS hA rfl hl.1 rfl (Nat.le_of_ble_eq_true rfl) dX3_adjustDecimal_99 ⟨Nat.zero_le _, Nat.zero_le _⟩ (fun H locs hP hD hS => ?_)
            refine lv_iload hx hb dX3_adjustDecimal_102 (lv_at hl 0 rfl) ?_
            refine lv_ior hx hb dX3_adjustDecimal_104 ?_
            refine pu_P_f11 (v := (xFlagsOf ((upd (a 2) (7 : Int32).toNatClampNeg ((((a 2) (7 : Int32).toNatClampNeg) + ((0 : Int32) + (96 : Int32))) &&& (255 : Int32))) (7 : Int32).toNatClampNeg)) ||| ((16 : Int32) ||| (1 : Int32))) hx hb hts hi3 hown hK hP hD hS (hts (.fieldLink RX3 13 "InvaderBoard$Processor" "flags" "I") (List.mem_cons_of_mem _ (List.mem_append_left _ (List.mem_of_getElem? (i := 1) rfl)))) dX3_adjustDecimal_105 (fun H locs hP hD hS => ?_)
            have hF : xAdjustDecimal f a = (upd f 11 ((xFlagsOf ((upd (a 2) (7 : Int32).toNatClampNeg ((((a 2) (7 : Int32).toNatClampNeg) + ((0 : Int32) + (96 : Int32))) &&& (255 : Int32))) (7 : Int32).toNatClampNeg)) ||| ((16 : Int32) ||| (1 : Int32))), ua a 2 (upd (a 2) (7 : Int32).toNatClampNeg ((((a 2) (7 : Int32).toNatClampNeg) + ((0 : Int32) + (96 : Int32))) &&& (255 : Int32)))) := by
              unfold xAdjustDecimal
              refine (if_neg c_1).trans ?_
              refine (if_pos c_7).trans ?_
              refine (if_neg c_8).trans ?_
              refine (if_neg c_11).trans ?_
              refine (if_neg c_12).trans ?_
              rfl
            rw [hF]
            exact KC.retv hx hb hr hlocks hK hP hD hS dX3_adjustDecimal_108
    · refine lv_bipush (v := 6) hx hb dX3_adjustDecimal_29 (by decide) ?_
      refine lv_goto (tgt := 35) hx hb dX3_adjustDecimal_31 (by decide) ?_
      refine lv_istore_n (lv' := [(3, .int _), (2, .int _), (1, .int _), (0, .ref _)]) hx hb dX3_adjustDecimal_35 rfl hl (by decide) rfl (fun ls hl => ?_)
      refine lv_iload_n hx hb dX3_adjustDecimal_36 rfl (lv_at hl 1 rfl) ?_
      refine lv_iload_n hx hb dX3_adjustDecimal_37 rfl (lv_at hl 0 rfl) ?_
      refine lv_iadd hx hb dX3_adjustDecimal_38 ?_
      refine lv_bipush (v := 15) hx hb dX3_adjustDecimal_39 (by decide) ?_
      refine lv_icmp_le (tgt := 49) hx hb dX3_adjustDecimal_41 (by decide) (fun c_13 => ?_) (fun c_13 => ?_)
      · refine lv_iconst (v := 0) hx hb dX3_adjustDecimal_49 (by decide) ?_
        refine lv_istore (lv' := [(4, .int _), (3, .int _), (2, .int _), (1, .int _), (0, .ref _)]) hx hb dX3_adjustDecimal_50 hl (by decide) rfl (fun ls hl => ?_)
        refine lv_iload_n hx hb dX3_adjustDecimal_52 rfl (lv_at hl 3 rfl) ?_
        refine lv_sipush (v := 153) hx hb dX3_adjustDecimal_53 (by decide) ?_
        refine lv_icmp_gt (tgt := 68) hx hb dX3_adjustDecimal_56 (by decide) (fun c_14 => ?_) (fun c_14 => ?_)
        · refine lv_iinc (v := (6 : Int32) + (96 : Int32)) (lv' := [(3, .int _), (4, .int _), (2, .int _), (1, .int _), (0, .ref _)]) hx hb dX3_adjustDecimal_68 hl (k := 1) rfl rfl (by decide) rfl (fun ls hl => ?_)
          refine lv_iload hx hb dX3_adjustDecimal_71 (lv_at hl 1 rfl) ?_
          refine lv_iconst (v := 1) hx hb dX3_adjustDecimal_73 (by decide) ?_
          refine lv_ior hx hb dX3_adjustDecimal_74 ?_
          refine lv_istore (lv' := [(4, .int _), (3, .int _), (2, .int _), (1, .int _), (0, .ref _)]) hx hb dX3_adjustDecimal_75 hl (by decide) rfl (fun ls hl => ?_)
          refine lv_aload_n hx hb dX3_adjustDecimal_77 rfl (lv_at hl 4 rfl) ?_
          refine va_get (ci := 3) (v := .ref (o 1)) (C := RX3) (T := TX3) (N := 9) hx hb hts hi3 hown hK hP 0 rfl rfl 2 (by decide) (hts (.fieldLink RX3 9 "InvaderBoard$Processor" "registers" "[I") (List.mem_cons_of_mem _ (List.mem_append_left _ (List.mem_of_getElem? (i := 0) rfl)))) (fun _ h9 => h9) rfl dX3_adjustDecimal_78 ?_
          refine lv_bipush (v := 7) hx hb dX3_adjustDecimal_81 (by decide) ?_
          refine lv_iload_n hx hb dX3_adjustDecimal_83 rfl (lv_at hl 3 rfl) ?_
          refine lv_iload_n hx hb dX3_adjustDecimal_84 rfl (lv_at hl 1 rfl) ?_
          refine lv_iadd hx hb dX3_adjustDecimal_85 ?_
          refine lv_sipush (v := 255) hx hb dX3_adjustDecimal_86 (by decide) ?_
          refine lv_iand hx hb dX3_adjustDecimal_89 ?_
          refine pu_P_a2 hx hb hK hP hD hS (by unfold vp_in; decide) dX3_adjustDecimal_90 (fun H locs hP hD hS => ?_)
          refine lv_aload_n hx hb dX3_adjustDecimal_91 rfl (lv_at hl 4 rfl) ?_
          refine lv_aload_n hx hb dX3_adjustDecimal_92 rfl (lv_at hl 4 rfl) ?_
          refine va_get (ci := 3) (v := .ref (o 1)) (C := RX3) (T := TX3) (N := 9) hx hb hts hi3 hown hK hP 0 rfl rfl 2 (by decide) (hts (.fieldLink RX3 9 "InvaderBoard$Processor" "registers" "[I") (List.mem_cons_of_mem _ (List.mem_append_left _ (List.mem_of_getElem? (i := 0) rfl)))) (fun _ h9 => h9) rfl dX3_adjustDecimal_93 ?_
          refine lv_bipush (v := 7) hx hb dX3_adjustDecimal_96 (by decide) ?_
          refine va_iald (f := upd (a 2) (7 : Int32).toNatClampNeg ((((a 2) (7 : Int32).toNatClampNeg) + ((6 : Int32) + (96 : Int32))) &&& (255 : Int32))) hx hb hK hP 1 0 rfl rfl (by unfold vp_in; decide) dX3_adjustDecimal_98 ?_
          refine KC.callS (rest := [.ref (o 0)]) (kX3_flagsOf l D cI ((upd (a 2) (7 : Int32).toNatClampNeg ((((a 2) (7 : Int32).toNatClampNeg) + ((6 : Int32) + (96 : Int32))) &&& (255 : Int32))) (7 : Int32).toNatClampNeg)) (va_cwS 1 hts gX3_adjustDecimal_X3_flagsOf rfl rfl rfl (by decide +kernel) ⟨Nat.le_of_ble_eq_true rfl, Nat.le_of_ble_eq_true rfl⟩) ⟨hx, hb, hml, hown, hts⟩ hK hP hD hS hA rfl hl.1 rfl (Nat.le_of_ble_eq_true rfl) dX3_adjustDecimal_99 ⟨Nat.zero_le _, Nat.zero_le _⟩ (fun H locs hP hD hS => ?_)
          refine lv_iload hx hb dX3_adjustDecimal_102 (lv_at hl 0 rfl) ?_
          refine lv_ior hx hb dX3_adjustDecimal_104 ?_
          refine pu_P_f11 (v := (xFlagsOf ((upd (a 2) (7 : Int32).toNatClampNeg ((((a 2) (7 : Int32).toNatClampNeg) + ((6 : Int32) + (96 : Int32))) &&& (255 : Int32))) (7 : Int32).toNatClampNeg)) ||| ((0 : Int32) ||| (1 : Int32))) hx hb hts hi3 hown hK hP hD hS (hts (.fieldLink RX3 13 "InvaderBoard$Processor" "flags" "I") (List.mem_cons_of_mem _ (List.mem_append_left _ (List.mem_of_getElem? (i := 1) rfl)))) dX3_adjustDecimal_105 (fun H locs hP hD hS => ?_)
          have hF : xAdjustDecimal f a = (upd f 11 ((xFlagsOf ((upd (a 2) (7 : Int32).toNatClampNeg ((((a 2) (7 : Int32).toNatClampNeg) + ((6 : Int32) + (96 : Int32))) &&& (255 : Int32))) (7 : Int32).toNatClampNeg)) ||| ((0 : Int32) ||| (1 : Int32))), ua a 2 (upd (a 2) (7 : Int32).toNatClampNeg ((((a 2) (7 : Int32).toNatClampNeg) + ((6 : Int32) + (96 : Int32))) &&& (255 : Int32)))) := by
            unfold xAdjustDecimal
            refine (if_neg c_1).trans ?_
            refine (if_neg c_7).trans ?_
            refine (if_pos c_13).trans ?_
            refine (if_pos c_14).trans ?_
            rfl
          rw [hF]
          exact KC.retv hx hb hr hlocks hK hP hD hS dX3_adjustDecimal_108
        · refine lv_aload_n hx hb dX3_adjustDecimal_59 rfl (lv_at hl 4 rfl) ?_
          refine va_get (ci := 3) (v := .int (f 11)) (C := RX3) (T := TX3) (N := 9) hx hb hts hi3 hown hK hP 0 rfl rfl 3 (by decide) (hts (.fieldLink RX3 13 "InvaderBoard$Processor" "flags" "I") (List.mem_cons_of_mem _ (List.mem_append_left _ (List.mem_of_getElem? (i := 1) rfl)))) (fun _ h9 => h9) rfl dX3_adjustDecimal_60 ?_
          refine lv_iconst (v := 1) hx hb dX3_adjustDecimal_63 (by decide) ?_
          refine lv_iand hx hb dX3_adjustDecimal_64 ?_
          refine lv_if_eq (tgt := 77) hx hb dX3_adjustDecimal_65 (by decide) (fun c_15 => ?_) (fun c_15 => ?_)
          · refine lv_aload_n hx hb dX3_adjustDecimal_77 rfl (lv_at hl 4 rfl) ?_
            refine va_get (ci := 3) (v := .ref (o 1)) (C := RX3) (T := TX3) (N := 9) hx hb hts hi3 hown hK hP 0 rfl rfl 2 (by decide) (hts (.fieldLink RX3 9 "InvaderBoard$Processor" "registers" "[I") (List.mem_cons_of_mem _ (List.mem_append_left _ (List.mem_of_getElem? (i := 0) rfl)))) (fun _ h9 => h9) rfl dX3_adjustDecimal_78 ?_
            refine lv_bipush (v := 7) hx hb dX3_adjustDecimal_81 (by decide) ?_
            refine lv_iload_n hx hb dX3_adjustDecimal_83 rfl (lv_at hl 3 rfl) ?_
            refine lv_iload_n hx hb dX3_adjustDecimal_84 rfl (lv_at hl 1 rfl) ?_
            refine lv_iadd hx hb dX3_adjustDecimal_85 ?_
            refine lv_sipush (v := 255) hx hb dX3_adjustDecimal_86 (by decide) ?_
            refine lv_iand hx hb dX3_adjustDecimal_89 ?_
            refine pu_P_a2 hx hb hK hP hD hS (by unfold vp_in; decide) dX3_adjustDecimal_90 (fun H locs hP hD hS => ?_)
            refine lv_aload_n hx hb dX3_adjustDecimal_91 rfl (lv_at hl 4 rfl) ?_
            refine lv_aload_n hx hb dX3_adjustDecimal_92 rfl (lv_at hl 4 rfl) ?_
            refine va_get (ci := 3) (v := .ref (o 1)) (C := RX3) (T := TX3) (N := 9) hx hb hts hi3 hown hK hP 0 rfl rfl 2 (by decide) (hts (.fieldLink RX3 9 "InvaderBoard$Processor" "registers" "[I") (List.mem_cons_of_mem _ (List.mem_append_left _ (List.mem_of_getElem? (i := 0) rfl)))) (fun _ h9 => h9) rfl dX3_adjustDecimal_93 ?_
            refine lv_bipush (v := 7) hx hb dX3_adjustDecimal_96 (by decide) ?_
            refine va_iald (f := upd (a 2) (7 : Int32).toNatClampNeg ((((a 2) (7 : Int32).toNatClampNeg) + (6 : Int32)) &&& (255 : Int32))) hx hb hK hP 1 0 rfl rfl (by unfold vp_in; decide) dX3_adjustDecimal_98 ?_
            refine KC.callS (rest := [.ref (o 0)]) (kX3_flagsOf l D cI ((upd (a 2) (7 : Int32).toNatClampNeg ((((a 2) (7 : Int32).toNatClampNeg) + (6 : Int32)) &&& (255 : Int32))) (7 : Int32).toNatClampNeg)) (va_cwS 1 hts gX3_adjustDecimal_X3_flagsOf rfl rfl rfl (by decide +kernel) ⟨Nat.le_of_ble_eq_true rfl, Nat.le_of_ble_eq_true rfl⟩) ⟨hx, hb, hml, hown, hts⟩ hK hP hD hS hA rfl hl.1 rfl (Nat.le_of_ble_eq_true rfl) dX3_adjustDecimal_99 ⟨Nat.zero_le _, Nat.zero_le _⟩ (fun H locs hP hD hS => ?_)
            refine lv_iload hx hb dX3_adjustDecimal_102 (lv_at hl 0 rfl) ?_
            refine lv_ior hx hb dX3_adjustDecimal_104 ?_
            refine pu_P_f11 (v := (xFlagsOf ((upd (a 2) (7 : Int32).toNatClampNeg ((((a 2) (7 : Int32).toNatClampNeg) + (6 : Int32)) &&& (255 : Int32))) (7 : Int32).toNatClampNeg)) ||| (0 : Int32)) hx hb hts hi3 hown hK hP hD hS (hts (.fieldLink RX3 13 "InvaderBoard$Processor" "flags" "I") (List.mem_cons_of_mem _ (List.mem_append_left _ (List.mem_of_getElem? (i := 1) rfl)))) dX3_adjustDecimal_105 (fun H locs hP hD hS => ?_)
            have hF : xAdjustDecimal f a = (upd f 11 ((xFlagsOf ((upd (a 2) (7 : Int32).toNatClampNeg ((((a 2) (7 : Int32).toNatClampNeg) + (6 : Int32)) &&& (255 : Int32))) (7 : Int32).toNatClampNeg)) ||| (0 : Int32)), ua a 2 (upd (a 2) (7 : Int32).toNatClampNeg ((((a 2) (7 : Int32).toNatClampNeg) + (6 : Int32)) &&& (255 : Int32)))) := by
              unfold xAdjustDecimal
              refine (if_neg c_1).trans ?_
              refine (if_neg c_7).trans ?_
              refine (if_pos c_13).trans ?_
              refine (if_neg c_14).trans ?_
              refine (if_pos c_15).trans ?_
              rfl
            rw [hF]
            exact KC.retv hx hb hr hlocks hK hP hD hS dX3_adjustDecimal_108
          · refine lv_iinc (v := (6 : Int32) + (96 : Int32)) (lv' := [(3, .int _), (4, .int _), (2, .int _), (1, .int _), (0, .ref _)]) hx hb dX3_adjustDecimal_68 hl (k := 1) rfl rfl (by decide) rfl (fun ls hl => ?_)
            refine lv_iload hx hb dX3_adjustDecimal_71 (lv_at hl 1 rfl) ?_
            refine lv_iconst (v := 1) hx hb dX3_adjustDecimal_73 (by decide) ?_
            refine lv_ior hx hb dX3_adjustDecimal_74 ?_
            refine lv_istore (lv' := [(4, .int _), (3, .int _), (2, .int _), (1, .int _), (0, .ref _)]) hx hb dX3_adjustDecimal_75 hl (by decide) rfl (fun ls hl => ?_)
            refine lv_aload_n hx hb dX3_adjustDecimal_77 rfl (lv_at hl 4 rfl) ?_
            refine va_get (ci := 3) (v := .ref (o 1)) (C := RX3) (T := TX3) (N := 9) hx hb hts hi3 hown hK hP 0 rfl rfl 2 (by decide) (hts (.fieldLink RX3 9 "InvaderBoard$Processor" "registers" "[I") (List.mem_cons_of_mem _ (List.mem_append_left _ (List.mem_of_getElem? (i := 0) rfl)))) (fun _ h9 => h9) rfl dX3_adjustDecimal_78 ?_
            refine lv_bipush (v := 7) hx hb dX3_adjustDecimal_81 (by decide) ?_
            refine lv_iload_n hx hb dX3_adjustDecimal_83 rfl (lv_at hl 3 rfl) ?_
            refine lv_iload_n hx hb dX3_adjustDecimal_84 rfl (lv_at hl 1 rfl) ?_
            refine lv_iadd hx hb dX3_adjustDecimal_85 ?_
            refine lv_sipush (v := 255) hx hb dX3_adjustDecimal_86 (by decide) ?_
            refine lv_iand hx hb dX3_adjustDecimal_89 ?_
            refine pu_P_a2 hx hb hK hP hD hS (by unfold vp_in; decide) dX3_adjustDecimal_90 (fun H locs hP hD hS => ?_)
            refine lv_aload_n hx hb dX3_adjustDecimal_91 rfl (lv_at hl 4 rfl) ?_
            refine lv_aload_n hx hb dX3_adjustDecimal_92 rfl (lv_at hl 4 rfl) ?_
            refine va_get (ci := 3) (v := .ref (o 1)) (C := RX3) (T := TX3) (N := 9) hx hb hts hi3 hown hK hP 0 rfl rfl 2 (by decide) (hts (.fieldLink RX3 9 "InvaderBoard$Processor" "registers" "[I") (List.mem_cons_of_mem _ (List.mem_append_left _ (List.mem_of_getElem? (i := 0) rfl)))) (fun _ h9 => h9) rfl dX3_adjustDecimal_93 ?_
            refine lv_bipush (v := 7) hx hb dX3_adjustDecimal_96 (by decide) ?_
            refine va_iald (f := upd (a 2) (7 : Int32).toNatClampNeg ((((a 2) (7 : Int32).toNatClampNeg) + ((6 : Int32) + (96 : Int32))) &&& (255 : Int32))) hx hb hK hP 1 0 rfl rfl (by unfold vp_in; decide) dX3_adjustDecimal_98 ?_
            refine KC.callS (rest := [.ref (o 0)]) (kX3_flagsOf l D cI ((upd (a 2) (7 : Int32).toNatClampNeg ((((a 2) (7 : Int32).toNatClampNeg) + ((6 : Int32) + (96 : Int32))) &&& (255 : Int32))) (7 : Int32).toNatClampNeg)) (va_cwS 1 hts gX3_adjustDecimal_X3_flagsOf rfl rfl rfl (by decide +kernel) ⟨Nat.le_of_ble_eq_true rfl, Nat.le_of_ble_eq_true rfl⟩) ⟨hx, hb, hml, hown, hts⟩ hK hP hD hS hA rfl hl.1 rfl (Nat.le_of_ble_eq_true rfl) dX3_adjustDecimal_99 ⟨Nat.zero_le _, Nat.zero_le _⟩ (fun H locs hP hD hS => ?_)
            refine lv_iload hx hb dX3_adjustDecimal_102 (lv_at hl 0 rfl) ?_
            refine lv_ior hx hb dX3_adjustDecimal_104 ?_
            refine pu_P_f11 (v := (xFlagsOf ((upd (a 2) (7 : Int32).toNatClampNeg ((((a 2) (7 : Int32).toNatClampNeg) + ((6 : Int32) + (96 : Int32))) &&& (255 : Int32))) (7 : Int32).toNatClampNeg)) ||| ((0 : Int32) ||| (1 : Int32))) hx hb hts hi3 hown hK hP hD hS (hts (.fieldLink RX3 13 "InvaderBoard$Processor" "flags" "I") (List.mem_cons_of_mem _ (List.mem_append_left _ (List.mem_of_getElem? (i := 1) rfl)))) dX3_adjustDecimal_105 (fun H locs hP hD hS => ?_)
            have hF : xAdjustDecimal f a = (upd f 11 ((xFlagsOf ((upd (a 2) (7 : Int32).toNatClampNeg ((((a 2) (7 : Int32).toNatClampNeg) + ((6 : Int32) + (96 : Int32))) &&& (255 : Int32))) (7 : Int32).toNatClampNeg)) ||| ((0 : Int32) ||| (1 : Int32))), ua a 2 (upd (a 2) (7 : Int32).toNatClampNeg ((((a 2) (7 : Int32).toNatClampNeg) + ((6 : Int32) + (96 : Int32))) &&& (255 : Int32)))) := by
              unfold xAdjustDecimal
              refine (if_neg c_1).trans ?_
              refine (if_neg c_7).trans ?_
              refine (if_pos c_13).trans ?_
              refine (if_neg c_14).trans ?_
              refine (if_neg c_15).trans ?_
              rfl
            rw [hF]
            exact KC.retv hx hb hr hlocks hK hP hD hS dX3_adjustDecimal_108
      · refine lv_bipush (v := 16) hx hb dX3_adjustDecimal_44 (by decide) ?_
        refine lv_goto (tgt := 50) hx hb dX3_adjustDecimal_46 (by decide) ?_
        refine lv_istore (lv' := [(4, .int _), (3, .int _), (2, .int _), (1, .int _), (0, .ref _)]) hx hb dX3_adjustDecimal_50 hl (by decide) rfl (fun ls hl => ?_)
        refine lv_iload_n hx hb dX3_adjustDecimal_52 rfl (lv_at hl 3 rfl) ?_
        refine lv_sipush (v := 153) hx hb dX3_adjustDecimal_53 (by decide) ?_
        refine lv_icmp_gt (tgt := 68) hx hb dX3_adjustDecimal_56 (by decide) (fun c_16 => ?_) (fun c_16 => ?_)
        · refine lv_iinc (v := (6 : Int32) + (96 : Int32)) (lv' := [(3, .int _), (4, .int _), (2, .int _), (1, .int _), (0, .ref _)]) hx hb dX3_adjustDecimal_68 hl (k := 1) rfl rfl (by decide) rfl (fun ls hl => ?_)
          refine lv_iload hx hb dX3_adjustDecimal_71 (lv_at hl 1 rfl) ?_
          refine lv_iconst (v := 1) hx hb dX3_adjustDecimal_73 (by decide) ?_
          refine lv_ior hx hb dX3_adjustDecimal_74 ?_
          refine lv_istore (lv' := [(4, .int _), (3, .int _), (2, .int _), (1, .int _), (0, .ref _)]) hx hb dX3_adjustDecimal_75 hl (by decide) rfl (fun ls hl => ?_)
          refine lv_aload_n hx hb dX3_adjustDecimal_77 rfl (lv_at hl 4 rfl) ?_
          refine va_get (ci := 3) (v := .ref (o 1)) (C := RX3) (T := TX3) (N := 9) hx hb hts hi3 hown hK hP 0 rfl rfl 2 (by decide) (hts (.fieldLink RX3 9 "InvaderBoard$Processor" "registers" "[I") (List.mem_cons_of_mem _ (List.mem_append_left _ (List.mem_of_getElem? (i := 0) rfl)))) (fun _ h9 => h9) rfl dX3_adjustDecimal_78 ?_
          refine lv_bipush (v := 7) hx hb dX3_adjustDecimal_81 (by decide) ?_
          refine lv_iload_n hx hb dX3_adjustDecimal_83 rfl (lv_at hl 3 rfl) ?_
          refine lv_iload_n hx hb dX3_adjustDecimal_84 rfl (lv_at hl 1 rfl) ?_
          refine lv_iadd hx hb dX3_adjustDecimal_85 ?_
          refine lv_sipush (v := 255) hx hb dX3_adjustDecimal_86 (by decide) ?_
          refine lv_iand hx hb dX3_adjustDecimal_89 ?_
          refine pu_P_a2 hx hb hK hP hD hS (by unfold vp_in; decide) dX3_adjustDecimal_90 (fun H locs hP hD hS => ?_)
          refine lv_aload_n hx hb dX3_adjustDecimal_91 rfl (lv_at hl 4 rfl) ?_
          refine lv_aload_n hx hb dX3_adjustDecimal_92 rfl (lv_at hl 4 rfl) ?_
          refine va_get (ci := 3) (v := .ref (o 1)) (C := RX3) (T := TX3) (N := 9) hx hb hts hi3 hown hK hP 0 rfl rfl 2 (by decide) (hts (.fieldLink RX3 9 "InvaderBoard$Processor" "registers" "[I") (List.mem_cons_of_mem _ (List.mem_append_left _ (List.mem_of_getElem? (i := 0) rfl)))) (fun _ h9 => h9) rfl dX3_adjustDecimal_93 ?_
          refine lv_bipush (v := 7) hx hb dX3_adjustDecimal_96 (by decide) ?_
          refine va_iald (f := upd (a 2) (7 : Int32).toNatClampNeg ((((a 2) (7 : Int32).toNatClampNeg) + ((6 : Int32) + (96 : Int32))) &&& (255 : Int32))) hx hb hK hP 1 0 rfl rfl (by unfold vp_in; decide) dX3_adjustDecimal_98 ?_
          refine KC.callS (rest := [.ref (o 0)]) (kX3_flagsOf l D cI ((upd (a 2) (7 : Int32).toNatClampNeg ((((a 2) (7 : Int32).toNatClampNeg) + ((6 : Int32) + (96 : Int32))) &&& (255 : Int32))) (7 : Int32).toNatClampNeg)) (va_cwS 1 hts gX3_adjustDecimal_X3_flagsOf rfl rfl rfl (by decide +kernel) ⟨Nat.le_of_ble_eq_true rfl, Nat.le_of_ble_eq_true rfl⟩) ⟨hx, hb, hml, hown, hts⟩ hK hP hD hS hA rfl hl.1 rfl (Nat.le_of_ble_eq_true rfl) dX3_adjustDecimal_99 ⟨Nat.zero_le _, Nat.zero_le _⟩ (fun H locs hP hD hS => ?_)
          refine lv_iload hx hb dX3_adjustDecimal_102 (lv_at hl 0 rfl) ?_
          refine lv_ior hx hb dX3_adjustDecimal_104 ?_
          refine pu_P_f11 (v := (xFlagsOf ((upd (a 2) (7 : Int32).toNatClampNeg ((((a 2) (7 : Int32).toNatClampNeg) + ((6 : Int32) + (96 : Int32))) &&& (255 : Int32))) (7 : Int32).toNatClampNeg)) ||| ((16 : Int32) ||| (1 : Int32))) hx hb hts hi3 hown hK hP hD hS (hts (.fieldLink RX3 13 "InvaderBoard$Processor" "flags" "I") (List.mem_cons_of_mem _ (List.mem_append_left _ (List.mem_of_getElem? (i := 1) rfl)))) dX3_adjustDecimal_105 (fun H locs hP hD hS => ?_)
          have hF : xAdjustDecimal f a = (upd f 11 ((xFlagsOf ((upd (a 2) (7 : Int32).toNatClampNeg ((((a 2) (7 : Int32).toNatClampNeg) + ((6 : Int32) + (96 : Int32))) &&& (255 : Int32))) (7 : Int32).toNatClampNeg)) ||| ((16 : Int32) ||| (1 : Int32))), ua a 2 (upd (a 2) (7 : Int32).toNatClampNeg ((((a 2) (7 : Int32).toNatClampNeg) + ((6 : Int32) + (96 : Int32))) &&& (255 : Int32)))) := by
            unfold xAdjustDecimal
            refine (if_neg c_1).trans ?_
            refine (if_neg c_7).trans ?_
            refine (if_neg c_13).trans ?_
            refine (if_pos c_16).trans ?_
            rfl
          rw [hF]
          exact KC.retv hx hb hr hlocks hK hP hD hS dX3_adjustDecimal_108
        · refine lv_aload_n hx hb dX3_adjustDecimal_59 rfl (lv_at hl 4 rfl) ?_
          refine va_get (ci := 3) (v := .int (f 11)) (C := RX3) (T := TX3) (N := 9) hx hb hts hi3 hown hK hP 0 rfl rfl 3 (by decide) (hts (.fieldLink RX3 13 "InvaderBoard$Processor" "flags" "I") (List.mem_cons_of_mem _ (List.mem_append_left _ (List.mem_of_getElem? (i := 1) rfl)))) (fun _ h9 => h9) rfl dX3_adjustDecimal_60 ?_
          refine lv_iconst (v := 1) hx hb dX3_adjustDecimal_63 (by decide) ?_
          refine lv_iand hx hb dX3_adjustDecimal_64 ?_
          refine lv_if_eq (tgt := 77) hx hb dX3_adjustDecimal_65 (by decide) (fun c_17 => ?_) (fun c_17 => ?_)
          · refine lv_aload_n hx hb dX3_adjustDecimal_77 rfl (lv_at hl 4 rfl) ?_
            refine va_get (ci := 3) (v := .ref (o 1)) (C := RX3) (T := TX3) (N := 9) hx hb hts hi3 hown hK hP 0 rfl rfl 2 (by decide) (hts (.fieldLink RX3 9 "InvaderBoard$Processor" "registers" "[I") (List.mem_cons_of_mem _ (List.mem_append_left _ (List.mem_of_getElem? (i := 0) rfl)))) (fun _ h9 => h9) rfl dX3_adjustDecimal_78 ?_
            refine lv_bipush (v := 7) hx hb dX3_adjustDecimal_81 (by decide) ?_
            refine lv_iload_n hx hb dX3_adjustDecimal_83 rfl (lv_at hl 3 rfl) ?_
            refine lv_iload_n hx hb dX3_adjustDecimal_84 rfl (lv_at hl 1 rfl) ?_
            refine lv_iadd hx hb dX3_adjustDecimal_85 ?_
            refine lv_sipush (v := 255) hx hb dX3_adjustDecimal_86 (by decide) ?_
            refine lv_iand hx hb dX3_adjustDecimal_89 ?_
            refine pu_P_a2 hx hb hK hP hD hS (by unfold vp_in; decide) dX3_adjustDecimal_90 (fun H locs hP hD hS => ?_)
            refine lv_aload_n hx hb dX3_adjustDecimal_91 rfl (lv_at hl 4 rfl) ?_
            refine lv_aload_n hx hb dX3_adjustDecimal_92 rfl (lv_at hl 4 rfl) ?_
            refine va_get (ci := 3) (v := .ref (o 1)) (C := RX3) (T := TX3) (N := 9) hx hb hts hi3 hown hK hP 0 rfl rfl 2 (by decide) (hts (.fieldLink RX3 9 "InvaderBoard$Processor" "registers" "[I") (List.mem_cons_of_mem _ (List.mem_append_left _ (List.mem_of_getElem? (i := 0) rfl)))) (fun _ h9 => h9) rfl dX3_adjustDecimal_93 ?_
            refine lv_bipush (v := 7) hx hb dX3_adjustDecimal_96 (by decide) ?_
            refine va_iald (f := upd (a 2) (7 : Int32).toNatClampNeg ((((a 2) (7 : Int32).toNatClampNeg) + (6 : Int32)) &&& (255 : Int32))) hx hb hK hP 1 0 rfl rfl (by unfold vp_in; decide) dX3_adjustDecimal_98 ?_
            refine KC.callS (rest := [.ref (o 0)]) (kX3_flagsOf l D cI ((upd (a 2) (7 : Int32).toNatClampNeg ((((a 2) (7 : Int32).toNatClampNeg) + (6 : Int32)) &&& (255 : Int32))) (7 : Int32).toNatClampNeg)) (va_cwS 1 hts gX3_adjustDecimal_X3_flagsOf rfl rfl rfl (by decide +kernel) ⟨Nat.le_of_ble_eq_true rfl, Nat.le_of_ble_eq_true rfl⟩) ⟨hx, hb, hml, hown, hts⟩ hK hP hD hS hA rfl hl.1 rfl (Nat.le_of_ble_eq_true rfl) dX3_adjustDecimal_99 ⟨Nat.zero_le _, Nat.zero_le _⟩ (fun H locs hP hD hS => ?_)
            refine lv_iload hx hb dX3_adjustDecimal_102 (lv_at hl 0 rfl) ?_
            refine lv_ior hx hb dX3_adjustDecimal_104 ?_
            refine pu_P_f11 (v := (xFlagsOf ((upd (a 2) (7 : Int32).toNatClampNeg ((((a 2) (7 : Int32).toNatClampNeg) + (6 : Int32)) &&& (255 : Int32))) (7 : Int32).toNatClampNeg)) ||| (16 : Int32)) hx hb hts hi3 hown hK hP hD hS (hts (.fieldLink RX3 13 "InvaderBoard$Processor" "flags" "I") (List.mem_cons_of_mem _ (List.mem_append_left _ (List.mem_of_getElem? (i := 1) rfl)))) dX3_adjustDecimal_105 (fun H locs hP hD hS => ?_)
            have hF : xAdjustDecimal f a = (upd f 11 ((xFlagsOf ((upd (a 2) (7 : Int32).toNatClampNeg ((((a 2) (7 : Int32).toNatClampNeg) + (6 : Int32)) &&& (255 : Int32))) (7 : Int32).toNatClampNeg)) ||| (16 : Int32)), ua a 2 (upd (a 2) (7 : Int32).toNatClampNeg ((((a 2) (7 : Int32).toNatClampNeg) + (6 : Int32)) &&& (255 : Int32)))) := by
              unfold xAdjustDecimal
              refine (if_neg c_1).trans ?_
              refine (if_neg c_7).trans ?_
              refine (if_neg c_13).trans ?_
              refine (if_neg c_16).trans ?_
              refine (if_pos c_17).trans ?_
              rfl
            rw [hF]
            exact KC.retv hx hb hr hlocks hK hP hD hS dX3_adjustDecimal_108
          · refine lv_iinc (v := (6 : Int32) + (96 : Int32)) (lv' := [(3, .int _), (4, .int _), (2, .int _), (1, .int _), (0, .ref _)]) hx hb dX3_adjustDecimal_68 hl (k := 1) rfl rfl (by decide) rfl (fun ls hl => ?_)
            refine lv_iload hx hb dX3_adjustDecimal_71 (lv_at hl 1 rfl) ?_
            refine lv_iconst (v := 1) hx hb dX3_adjustDecimal_73 (by decide) ?_
            refine lv_ior hx hb dX3_adjustDecimal_74 ?_
            refine lv_istore (lv' := [(4, .int _), (3, .int _), (2, .int _), (1, .int _), (0, .ref _)]) hx hb dX3_adjustDecimal_75 hl (by decide) rfl (fun ls hl => ?_)
            refine lv_aload_n hx hb dX3_adjustDecimal_77 rfl (lv_at hl 4 rfl) ?_
            refine va_get (ci := 3) (v := .ref (o 1)) (C := RX3) (T := TX3) (N := 9) hx hb hts hi3 hown hK hP 0 rfl rfl 2 (by decide) (hts (.fieldLink RX3 9 "InvaderBoard$Processor" "registers" "[I") (List.mem_cons_of_mem _ (List.mem_append_left _ (List.mem_of_getElem? (i := 0) rfl)))) (fun _ h9 => h9) rfl dX3_adjustDecimal_78 ?_
            refine lv_bipush (v := 7) hx hb dX3_adjustDecimal_81 (by decide) ?_
            refine lv_iload_n hx hb dX3_adjustDecimal_83 rfl (lv_at hl 3 rfl) ?_
            refine lv_iload_n hx hb dX3_adjustDecimal_84 rfl (lv_at hl 1 rfl) ?_
            refine lv_iadd hx hb dX3_adjustDecimal_85 ?_
            refine lv_sipush (v := 255) hx hb dX3_adjustDecimal_86 (by decide) ?_
            refine lv_iand hx hb dX3_adjustDecimal_89 ?_
            refine pu_P_a2 hx hb hK hP hD hS (by unfold vp_in; decide) dX3_adjustDecimal_90 (fun H locs hP hD hS => ?_)
            refine lv_aload_n hx hb dX3_adjustDecimal_91 rfl (lv_at hl 4 rfl) ?_
            refine lv_aload_n hx hb dX3_adjustDecimal_92 rfl (lv_at hl 4 rfl) ?_
            refine va_get (ci := 3) (v := .ref (o 1)) (C := RX3) (T := TX3) (N := 9) hx hb hts hi3 hown hK hP 0 rfl rfl 2 (by decide) (hts (.fieldLink RX3 9 "InvaderBoard$Processor" "registers" "[I") (List.mem_cons_of_mem _ (List.mem_append_left _ (List.mem_of_getElem? (i := 0) rfl)))) (fun _ h9 => h9) rfl dX3_adjustDecimal_93 ?_
            refine lv_bipush (v := 7) hx hb dX3_adjustDecimal_96 (by decide) ?_
            refine va_iald (f := upd (a 2) (7 : Int32).toNatClampNeg ((((a 2) (7 : Int32).toNatClampNeg) + ((6 : Int32) + (96 : Int32))) &&& (255 : Int32))) hx hb hK hP 1 0 rfl rfl (by unfold vp_in; decide) dX3_adjustDecimal_98 ?_
            refine KC.callS (rest := [.ref (o 0)]) (kX3_flagsOf l D cI ((upd (a 2) (7 : Int32).toNatClampNeg ((((a 2) (7 : Int32).toNatClampNeg) + ((6 : Int32) + (96 : Int32))) &&& (255 : Int32))) (7 : Int32).toNatClampNeg)) (va_cwS 1 hts gX3_adjustDecimal_X3_flagsOf rfl rfl rfl (by decide +kernel) ⟨Nat.le_of_ble_eq_true rfl, Nat.le_of_ble_eq_true rfl⟩) ⟨hx, hb, hml, hown, hts⟩ hK hP hD hS hA rfl hl.1 rfl (Nat.le_of_ble_eq_true rfl) dX3_adjustDecimal_99 ⟨Nat.zero_le _, Nat.zero_le _⟩ (fun H locs hP hD hS => ?_)
            refine lv_iload hx hb dX3_adjustDecimal_102 (lv_at hl 0 rfl) ?_
            refine lv_ior hx hb dX3_adjustDecimal_104 ?_
            refine pu_P_f11 (v := (xFlagsOf ((upd (a 2) (7 : Int32).toNatClampNeg ((((a 2) (7 : Int32).toNatClampNeg) + ((6 : Int32) + (96 : Int32))) &&& (255 : Int32))) (7 : Int32).toNatClampNeg)) ||| ((16 : Int32) ||| (1 : Int32))) hx hb hts hi3 hown hK hP hD hS (hts (.fieldLink RX3 13 "InvaderBoard$Processor" "flags" "I") (List.mem_cons_of_mem _ (List.mem_append_left _ (List.mem_of_getElem? (i := 1) rfl)))) dX3_adjustDecimal_105 (fun H locs hP hD hS => ?_)
            have hF : xAdjustDecimal f a = (upd f 11 ((xFlagsOf ((upd (a 2) (7 : Int32).toNatClampNeg ((((a 2) (7 : Int32).toNatClampNeg) + ((6 : Int32) + (96 : Int32))) &&& (255 : Int32))) (7 : Int32).toNatClampNeg)) ||| ((16 : Int32) ||| (1 : Int32))), ua a 2 (upd (a 2) (7 : Int32).toNatClampNeg ((((a 2) (7 : Int32).toNatClampNeg) + ((6 : Int32) + (96 : Int32))) &&& (255 : Int32)))) := by
              unfold xAdjustDecimal
              refine (if_neg c_1).trans ?_
              refine (if_neg c_7).trans ?_
              refine (if_neg c_13).trans ?_
              refine (if_neg c_16).trans ?_
              refine (if_neg c_17).trans ?_
              rfl
            rw [hF]
            exact KC.retv hx hb hr hlocks hK hP hD hS dX3_adjustDecimal_108
def xChangeAcc (f : Nat → Int32) (a : Nat → Nat → Int32) (p1 : Int32) : (Nat → Int32) × (Nat → Nat → Int32) :=
  if p1 = (0 : Int32) then (match xSetRotated f a ((((a 2) (7 : Int32).toNatClampNeg) <<< ((1 : Int32) &&& 31)) ||| (((a 2) (7 : Int32).toNatClampNeg) >>> ((7 : Int32) &&& 31))) (((a 2) (7 : Int32).toNatClampNeg) >>> ((7 : Int32) &&& 31)) with
    | (f_2, a_2) => (f_2, a_2))
  else if p1 = (1 : Int32) then (match xSetRotated f a ((((a 2) (7 : Int32).toNatClampNeg) >>> ((1 : Int32) &&& 31)) ||| (((a 2) (7 : Int32).toNatClampNeg) <<< ((7 : Int32) &&& 31))) ((a 2) (7 : Int32).toNatClampNeg) with
      | (f_4, a_4) => (f_4, a_4))
    else if p1 = (2 : Int32) then (match xSetRotated f a ((((a 2) (7 : Int32).toNatClampNeg) <<< ((1 : Int32) &&& 31)) ||| ((f 11) &&& (1 : Int32))) (((a 2) (7 : Int32).toNatClampNeg) >>> ((7 : Int32) &&& 31)) with
        | (f_6, a_6) => (f_6, a_6))
      else if p1 = (3 : Int32) then (match xSetRotated f a ((((a 2) (7 : Int32).toNatClampNeg) >>> ((1 : Int32) &&& 31)) ||| (((f 11) &&& (1 : Int32)) <<< ((7 : Int32) &&& 31))) ((a 2) (7 : Int32).toNatClampNeg) with
          | (f_8, a_8) => (f_8, a_8))
        else if p1 = (4 : Int32) then (match xAdjustDecimal f a with
            | (f_10, a_10) => (f_10, a_10))
          else if p1 = (5 : Int32) then (f, ua a 2 (upd (a 2) (7 : Int32).toNatClampNeg (((a 2) (7 : Int32).toNatClampNeg) ^^^ (255 : Int32))))
            else if p1 = (6 : Int32) then (upd f 11 ((f 11) ||| (1 : Int32)), a)
              else (upd f 11 ((f 11) ^^^ (1 : Int32)), a)
set_option maxHeartbeats 4000000 in
set_option maxRecDepth 100000 in
theorem kX3_changeAccumulator (l : Launch) (D : va_G) (cI : ClassId) (o : Nat → Nat) (f : Nat → Int32) (a : Nat → Nat → Int32) (p1 : Int32) : KC l yX3_changeAccumulator wsX3_changeAccumulator 3 [.ref (o 0), .int p1] D cI (wP cI o f a) (wP cI o ((xChangeAcc f a p1).1) ((xChangeAcc f a p1).2)) none := by
  refine KC.of (cc := cX3_changeAccumulator) (maxL := 4) (by decide) rfl (Nat.le_of_ble_eq_true rfl) ?_
  intro p e s m below meth c A hx hb hr hts hown hlocks hml hK hP hD hS hA ls hl
  have hl : lv_has ls 4 [(0, .ref (o 0)), (1, .int p1)] := hl
  have hown : s.vm.findClass RX3 = some m.cls := hown
  have hi3 : ∀ w ∈ u_ws RX3 TX3 9, w ∈ wsX3_changeAccumulator := fun w h => List.mem_cons_of_mem _ (List.mem_append_right _ h)
  refine lv_aload_n hx hb dX3_changeAccumulator_0 rfl (lv_at hl 0 rfl) ?_
  refine va_get (ci := 3) (v := .ref (o 1)) (C := RX3) (T := TX3) (N := 9) hx hb hts hi3 hown hK hP 0 rfl rfl 2 (by decide) (hts (.fieldLink RX3 9 "InvaderBoard$Processor" "registers" "[I") (List.mem_cons_of_mem _ (List.mem_append_left _ (List.mem_append_left _ (List.mem_of_getElem? (i := 0) rfl))))) (fun _ h9 => h9) rfl dX3_changeAccumulator_1 ?_
  refine lv_bipush (v := 7) hx hb dX3_changeAccumulator_4 (by decide) ?_
  refine va_iald (f := a 2) hx hb hK hP 1 0 rfl rfl (by unfold vp_in; decide) dX3_changeAccumulator_6 ?_
  refine lv_istore_n (lv' := [(2, .int _), (0, .ref _), (1, .int _)]) hx hb dX3_changeAccumulator_7 rfl hl (by decide) rfl (fun ls hl => ?_)
  refine lv_aload_n hx hb dX3_changeAccumulator_8 rfl (lv_at hl 1 rfl) ?_
  refine va_get (ci := 3) (v := .int (f 11)) (C := RX3) (T := TX3) (N := 9) hx hb hts hi3 hown hK hP 0 rfl rfl 3 (by decide) (hts (.fieldLink RX3 13 "InvaderBoard$Processor" "flags" "I") (List.mem_cons_of_mem _ (List.mem_append_left _ (List.mem_append_left _ (List.mem_of_getElem? (i := 1) rfl))))) (fun _ h9 => h9) rfl dX3_changeAccumulator_9 ?_
  refine lv_iconst (v := 1) hx hb dX3_changeAccumulator_12 (by decide) ?_
  refine lv_iand hx hb dX3_changeAccumulator_13 ?_
  refine lv_istore_n (lv' := [(3, .int _), (2, .int _), (0, .ref _), (1, .int _)]) hx hb dX3_changeAccumulator_14 rfl hl (by decide) rfl (fun ls hl => ?_)
  refine lv_iload_n hx hb dX3_changeAccumulator_15 rfl (lv_at hl 3 rfl) ?_
  by_cases c_1 : p1 = (0 : Int32)
  · refine k_tin (tgt := 60) hx hb (0 : Int32) c_1 dX3_changeAccumulator_16 (by decide) (by decide) rfl (by decide) ?_
    refine lv_aload_n hx hb dX3_changeAccumulator_60 rfl (lv_at hl 2 rfl) ?_
    refine lv_iload_n hx hb dX3_changeAccumulator_61 rfl (lv_at hl 1 rfl) ?_
    refine lv_iconst (v := 1) hx hb dX3_changeAccumulator_62 (by decide) ?_
    refine lv_ishl hx hb dX3_changeAccumulator_63 ?_
    refine lv_iload_n hx hb dX3_changeAccumulator_64 rfl (lv_at hl 1 rfl) ?_
    refine lv_bipush (v := 7) hx hb dX3_changeAccumulator_65 (by decide) ?_
    refine lv_ishr hx hb dX3_changeAccumulator_67 ?_
    refine lv_ior hx hb dX3_changeAccumulator_68 ?_
    refine lv_iload_n hx hb dX3_changeAccumulator_69 rfl (lv_at hl 1 rfl) ?_
    refine lv_bipush (v := 7) hx hb dX3_changeAccumulator_70 (by decide) ?_
    refine lv_ishr hx hb dX3_changeAccumulator_72 ?_
    obtain ⟨f_2, a_2, hB_2⟩ := k_ex2 (xSetRotated f a ((((a 2) (7 : Int32).toNatClampNeg) <<< ((1 : Int32) &&& 31)) ||| (((a 2) (7 : Int32).toNatClampNeg) >>> ((7 : Int32) &&& 31))) (((a 2) (7 : Int32).toNatClampNeg) >>> ((7 : Int32) &&& 31)))
    have kc_2 := kX3_setRotated l D cI o f a ((((a 2) (7 : Int32).toNatClampNeg) <<< ((1 : Int32) &&& 31)) ||| (((a 2) (7 : Int32).toNatClampNeg) >>> ((7 : Int32) &&& 31))) (((a 2) (7 : Int32).toNatClampNeg) >>> ((7 : Int32) &&& 31))
    rw [hB_2] at kc_2; dsimp only at kc_2
    refine KC.callv (ci := 3) (rest := []) (wt := wP cI o f_2 a_2) (kc_2) (cwV 2 hts gX3_changeAccumulator_X3_setRotated rfl rfl rfl (by decide +kernel) ⟨Nat.le_of_ble_eq_true rfl, Nat.le_of_ble_eq_true rfl⟩) ⟨hx, hb, hml, hown, hts⟩ hK hP hD hS hA rfl rfl rfl [0, 1, 2, 3, 4, 5, 6, 7, 8] [] [0, 1, 2, 3, 4, 5, 6, 7, 8] (by decide) rfl (wr := []) rfl (by decide) (by decide) (by decide) rfl rfl hl.1 rfl (Nat.le_of_ble_eq_true rfl) dX3_changeAccumulator_73 ⟨Nat.zero_le _, Nat.zero_le _⟩ (fun H locs hP hD hS => ?_)
    refine lv_goto (tgt := 172) hx hb dX3_changeAccumulator_76 (by decide) ?_
    have hF : xChangeAcc f a p1 = (f_2, a_2) := by
      unfold xChangeAcc
      refine (if_pos c_1).trans ?_
      rewrite [hB_2]
      rfl
    rw [hF]
    exact KC.retv hx hb hr hlocks hK hP hD hS dX3_changeAccumulator_172
  by_cases c_3 : p1 = (1 : Int32)
  · refine k_tin (tgt := 79) hx hb (1 : Int32) c_3 dX3_changeAccumulator_16 (by decide) (by decide) rfl (by decide) ?_
    refine lv_aload_n hx hb dX3_changeAccumulator_79 rfl (lv_at hl 2 rfl) ?_
    refine lv_iload_n hx hb dX3_changeAccumulator_80 rfl (lv_at hl 1 rfl) ?_
    refine lv_iconst (v := 1) hx hb dX3_changeAccumulator_81 (by decide) ?_
    refine lv_ishr hx hb dX3_changeAccumulator_82 ?_
    refine lv_iload_n hx hb dX3_changeAccumulator_83 rfl (lv_at hl 1 rfl) ?_
    refine lv_bipush (v := 7) hx hb dX3_changeAccumulator_84 (by decide) ?_
    refine lv_ishl hx hb dX3_changeAccumulator_86 ?_
    refine lv_ior hx hb dX3_changeAccumulator_87 ?_
    refine lv_iload_n hx hb dX3_changeAccumulator_88 rfl (lv_at hl 1 rfl) ?_
    obtain ⟨f_4, a_4, hB_4⟩ := k_ex2 (xSetRotated f a ((((a 2) (7 : Int32).toNatClampNeg) >>> ((1 : Int32) &&& 31)) ||| (((a 2) (7 : Int32).toNatClampNeg) <<< ((7 : Int32) &&& 31))) ((a 2) (7 : Int32).toNatClampNeg))
    have kc_4 := kX3_setRotated l D cI o f a ((((a 2) (7 : Int32).toNatClampNeg) >>> ((1 : Int32) &&& 31)) ||| (((a 2) (7 : Int32).toNatClampNeg) <<< ((7 : Int32) &&& 31))) ((a 2) (7 : Int32).toNatClampNeg)
    rw [hB_4] at kc_4; dsimp only at kc_4
    refine KC.callv (ci := 3) (rest := []) (wt := wP cI o f_4 a_4) (kc_4) (cwV 2 hts gX3_changeAccumulator_X3_setRotated rfl rfl rfl (by decide +kernel) ⟨Nat.le_of_ble_eq_true rfl, Nat.le_of_ble_eq_true rfl⟩) ⟨hx, hb, hml, hown, hts⟩ hK hP hD hS hA rfl rfl rfl [0, 1, 2, 3, 4, 5, 6, 7, 8] [] [0, 1, 2, 3, 4, 5, 6, 7, 8] (by decide) rfl (wr := []) rfl (by decide) (by decide) (by decide) rfl rfl hl.1 rfl (Nat.le_of_ble_eq_true rfl) dX3_changeAccumulator_89 ⟨Nat.zero_le _, Nat.zero_le _⟩ (fun H locs hP hD hS => ?_)
    refine lv_goto (tgt := 172) hx hb dX3_changeAccumulator_92 (by decide) ?_
    have hF : xChangeAcc f a p1 = (f_4, a_4) := by
      unfold xChangeAcc
      refine (if_neg c_1).trans ?_
      refine (if_pos c_3).trans ?_
      rewrite [hB_4]
      rfl
    rw [hF]
    exact KC.retv hx hb hr hlocks hK hP hD hS dX3_changeAccumulator_172
  by_cases c_5 : p1 = (2 : Int32)
  · refine k_tin (tgt := 95) hx hb (2 : Int32) c_5 dX3_changeAccumulator_16 (by decide) (by decide) rfl (by decide) ?_
    refine lv_aload_n hx hb dX3_changeAccumulator_95 rfl (lv_at hl 2 rfl) ?_
    refine lv_iload_n hx hb dX3_changeAccumulator_96 rfl (lv_at hl 1 rfl) ?_
    refine lv_iconst (v := 1) hx hb dX3_changeAccumulator_97 (by decide) ?_
    refine lv_ishl hx hb dX3_changeAccumulator_98 ?_
    refine lv_iload_n hx hb dX3_changeAccumulator_99 rfl (lv_at hl 0 rfl) ?_
    refine lv_ior hx hb dX3_changeAccumulator_100 ?_
    refine lv_iload_n hx hb dX3_changeAccumulator_101 rfl (lv_at hl 1 rfl) ?_
    refine lv_bipush (v := 7) hx hb dX3_changeAccumulator_102 (by decide) ?_
    refine lv_ishr hx hb dX3_changeAccumulator_104 ?_
    obtain ⟨f_6, a_6, hB_6⟩ := k_ex2 (xSetRotated f a ((((a 2) (7 : Int32).toNatClampNeg) <<< ((1 : Int32) &&& 31)) ||| ((f 11) &&& (1 : Int32))) (((a 2) (7 : Int32).toNatClampNeg) >>> ((7 : Int32) &&& 31)))
    have kc_6 := kX3_setRotated l D cI o f a ((((a 2) (7 : Int32).toNatClampNeg) <<< ((1 : Int32) &&& 31)) ||| ((f 11) &&& (1 : Int32))) (((a 2) (7 : Int32).toNatClampNeg) >>> ((7 : Int32) &&& 31))
    rw [hB_6] at kc_6; dsimp only at kc_6
    refine KC.callv (ci := 3) (rest := []) (wt := wP cI o f_6 a_6) (kc_6) (cwV 2 hts gX3_changeAccumulator_X3_setRotated rfl rfl rfl (by decide +kernel) ⟨Nat.le_of_ble_eq_true rfl, Nat.le_of_ble_eq_true rfl⟩) ⟨hx, hb, hml, hown, hts⟩ hK hP hD hS hA rfl rfl rfl [0, 1, 2, 3, 4, 5, 6, 7, 8] [] [0, 1, 2, 3, 4, 5, 6, 7, 8] (by decide) rfl (wr := []) rfl (by decide) (by decide) (by decide) rfl rfl hl.1 rfl (Nat.le_of_ble_eq_true rfl) dX3_changeAccumulator_105 ⟨Nat.zero_le _, Nat.zero_le _⟩ (fun H locs hP hD hS => ?_)
    refine lv_goto (tgt := 172) hx hb dX3_changeAccumulator_108 (by decide) ?_
    have hF : xChangeAcc f a p1 = (f_6, a_6) := by
      unfold xChangeAcc
      refine (if_neg c_1).trans ?_
      refine (if_neg c_3).trans ?_
      refine (if_pos c_5).trans ?_
      rewrite [hB_6]
      rfl
    rw [hF]
    exact KC.retv hx hb hr hlocks hK hP hD hS dX3_changeAccumulator_172
  by_cases c_7 : p1 = (3 : Int32)
  · refine k_tin (tgt := 111) hx hb (3 : Int32) c_7 dX3_changeAccumulator_16 (by decide) (by decide) rfl (by decide) ?_
    refine lv_aload_n hx hb dX3_changeAccumulator_111 rfl (lv_at hl 2 rfl) ?_
    refine lv_iload_n hx hb dX3_changeAccumulator_112 rfl (lv_at hl 1 rfl) ?_
    refine lv_iconst (v := 1) hx hb dX3_changeAccumulator_113 (by decide) ?_
    refine lv_ishr hx hb dX3_changeAccumulator_114 ?_
    refine lv_iload_n hx hb dX3_changeAccumulator_115 rfl (lv_at hl 0 rfl) ?_
    refine lv_bipush (v := 7) hx hb dX3_changeAccumulator_116 (by decide) ?_
    refine lv_ishl hx hb dX3_changeAccumulator_118 ?_
    refine lv_ior hx hb dX3_changeAccumulator_119 ?_
    refine lv_iload_n hx hb dX3_changeAccumulator_120 rfl (lv_at hl 1 rfl) ?_
    obtain ⟨f_8, a_8, hB_8⟩ := k_ex2 (xSetRotated f a ((((a 2) (7 : Int32).toNatClampNeg) >>> ((1 : Int32) &&& 31)) ||| (((f 11) &&& (1 : Int32)) <<< ((7 : Int32) &&& 31))) ((a 2) (7 : Int32).toNatClampNeg))
    have kc_8 := kX3_setRotated l D cI o f a ((((a 2) (7 : Int32).toNatClampNeg) >>> ((1 : Int32) &&& 31)) ||| (((f 11) &&& (1 : Int32)) <<< ((7 : Int32) &&& 31))) ((a 2) (7 : Int32).toNatClampNeg)
    rw [hB_8] at kc_8; dsimp only at kc_8
    refine KC.callv (ci := 3) (rest := []) (wt := wP cI o f_8 a_8) (kc_8) (cwV 2 hts gX3_changeAccumulator_X3_setRotated rfl rfl rfl (by decide +kernel) ⟨Nat.le_of_ble_eq_true rfl, Nat.le_of_ble_eq_true rfl⟩) ⟨hx, hb, hml, hown, hts⟩ hK hP hD hS hA rfl rfl rfl [0, 1, 2, 3, 4, 5, 6, 7, 8] [] [0, 1, 2, 3, 4, 5, 6, 7, 8] (by decide) rfl (wr := []) rfl (by decide) (by decide) (by decide) rfl rfl hl.1 rfl (Nat.le_of_ble_eq_true rfl) dX3_changeAccumulator_121 ⟨Nat.zero_le _, Nat.zero_le _⟩ (fun H locs hP hD hS => ?_)
    refine lv_goto (tgt := 172) hx hb dX3_changeAccumulator_124 (by decide) ?_
    have hF : xChangeAcc f a p1 = (f_8, a_8) := by
      unfold xChangeAcc
      refine (if_neg c_1).trans ?_
      refine (if_neg c_3).trans ?_
      refine (if_neg c_5).trans ?_
      refine (if_pos c_7).trans ?_
      rewrite [hB_8]
      rfl
    rw [hF]
    exact KC.retv hx hb hr hlocks hK hP hD hS dX3_changeAccumulator_172
  by_cases c_9 : p1 = (4 : Int32)
  · refine k_tin (tgt := 127) hx hb (4 : Int32) c_9 dX3_changeAccumulator_16 (by decide) (by decide) rfl (by decide) ?_
    refine lv_aload_n hx hb dX3_changeAccumulator_127 rfl (lv_at hl 2 rfl) ?_
    obtain ⟨f_10, a_10, hB_10⟩ := k_ex2 (xAdjustDecimal f a)
    have kc_10 := kX3_adjustDecimal l D cI o f a
    rw [hB_10] at kc_10; dsimp only at kc_10
    refine KC.callv (ci := 3) (rest := []) (wt := wP cI o f_10 a_10) (kc_10) (cwV 0 hts gX3_changeAccumulator_X3_adjustDecimal rfl rfl rfl (by decide +kernel) ⟨Nat.le_of_ble_eq_true rfl, Nat.le_of_ble_eq_true rfl⟩) ⟨hx, hb, hml, hown, hts⟩ hK hP hD hS hA rfl rfl rfl [0, 1, 2, 3, 4, 5, 6, 7, 8] [] [0, 1, 2, 3, 4, 5, 6, 7, 8] (by decide) rfl (wr := []) rfl (by decide) (by decide) (by decide) rfl rfl hl.1 rfl (Nat.le_of_ble_eq_true rfl) dX3_changeAccumulator_128 ⟨Nat.zero_le _, Nat.zero_le _⟩ (fun H locs hP hD hS => ?_)
    refine lv_goto (tgt := 172) hx hb dX3_changeAccumulator_131 (by decide) ?_
    have hF : xChangeAcc f a p1 = (f_10, a_10) := by
      unfold xChangeAcc
      refine (if_neg c_1).trans ?_
      refine (if_neg c_3).trans ?_
      refine (if_neg c_5).trans ?_
      refine (if_neg c_7).trans ?_
      refine (if_pos c_9).trans ?_
      rewrite [hB_10]
      rfl
    rw [hF]
    exact KC.retv hx hb hr hlocks hK hP hD hS dX3_changeAccumulator_172
  by_cases c_11 : p1 = (5 : Int32)
  · refine k_tin (tgt := 134) hx hb (5 : Int32) c_11 dX3_changeAccumulator_16 (by decide) (by decide) rfl (by decide) ?_
    refine lv_aload_n hx hb dX3_changeAccumulator_134 rfl (lv_at hl 2 rfl) ?_
    refine va_get (ci := 3) (v := .ref (o 1)) (C := RX3) (T := TX3) (N := 9) hx hb hts hi3 hown hK hP 0 rfl rfl 2 (by decide) (hts (.fieldLink RX3 9 "InvaderBoard$Processor" "registers" "[I") (List.mem_cons_of_mem _ (List.mem_append_left _ (List.mem_append_left _ (List.mem_of_getElem? (i := 0) rfl))))) (fun _ h9 => h9) rfl dX3_changeAccumulator_135 ?_
    refine lv_bipush (v := 7) hx hb dX3_changeAccumulator_138 (by decide) ?_
    refine lv_iload_n hx hb dX3_changeAccumulator_140 rfl (lv_at hl 1 rfl) ?_
    refine lv_sipush (v := 255) hx hb dX3_changeAccumulator_141 (by decide) ?_
    refine lv_ixor hx hb dX3_changeAccumulator_144 ?_
    refine pu_P_a2 hx hb hK hP hD hS (by unfold vp_in; decide) dX3_changeAccumulator_145 (fun H locs hP hD hS => ?_)
    refine lv_goto (tgt := 172) hx hb dX3_changeAccumulator_146 (by decide) ?_
    have hF : xChangeAcc f a p1 = (f, ua a 2 (upd (a 2) (7 : Int32).toNatClampNeg (((a 2) (7 : Int32).toNatClampNeg) ^^^ (255 : Int32)))) := by
      unfold xChangeAcc
      refine (if_neg c_1).trans ?_
      refine (if_neg c_3).trans ?_
      refine (if_neg c_5).trans ?_
      refine (if_neg c_7).trans ?_
      refine (if_neg c_9).trans ?_
      refine (if_pos c_11).trans ?_
      rfl
    rw [hF]
    exact KC.retv hx hb hr hlocks hK hP hD hS dX3_changeAccumulator_172
  by_cases c_12 : p1 = (6 : Int32)
  · refine k_tin (tgt := 149) hx hb (6 : Int32) c_12 dX3_changeAccumulator_16 (by decide) (by decide) rfl (by decide) ?_
    refine lv_aload_n hx hb dX3_changeAccumulator_149 rfl (lv_at hl 2 rfl) ?_
    refine lv_dup hx hb dX3_changeAccumulator_150 rfl ?_
    refine va_get (ci := 3) (v := .int (f 11)) (C := RX3) (T := TX3) (N := 9) hx hb hts hi3 hown hK hP 0 rfl rfl 3 (by decide) (hts (.fieldLink RX3 13 "InvaderBoard$Processor" "flags" "I") (List.mem_cons_of_mem _ (List.mem_append_left _ (List.mem_append_left _ (List.mem_of_getElem? (i := 1) rfl))))) (fun _ h9 => h9) rfl dX3_changeAccumulator_151 ?_
    refine lv_iconst (v := 1) hx hb dX3_changeAccumulator_154 (by decide) ?_
    refine lv_ior hx hb dX3_changeAccumulator_155 ?_
    refine pu_P_f11 (v := (f 11) ||| (1 : Int32)) hx hb hts hi3 hown hK hP hD hS (hts (.fieldLink RX3 13 "InvaderBoard$Processor" "flags" "I") (List.mem_cons_of_mem _ (List.mem_append_left _ (List.mem_append_left _ (List.mem_of_getElem? (i := 1) rfl))))) dX3_changeAccumulator_156 (fun H locs hP hD hS => ?_)
    refine lv_goto (tgt := 172) hx hb dX3_changeAccumulator_159 (by decide) ?_
    have hF : xChangeAcc f a p1 = (upd f 11 ((f 11) ||| (1 : Int32)), a) := by
      unfold xChangeAcc
      refine (if_neg c_1).trans ?_
      refine (if_neg c_3).trans ?_
      refine (if_neg c_5).trans ?_
      refine (if_neg c_7).trans ?_
      refine (if_neg c_9).trans ?_
      refine (if_neg c_11).trans ?_
      refine (if_pos c_12).trans ?_
      rfl
    rw [hF]
    exact KC.retv hx hb hr hlocks hK hP hD hS dX3_changeAccumulator_172
  refine lv_tableOut (tgt := 162) hx hb dX3_changeAccumulator_16 (by have := lv_neT c_1 (k := (0 : Int32)) (a := 0) (by decide); have := lv_neT c_3 (k := (1 : Int32)) (a := 1) (by decide); have := lv_neT c_5 (k := (2 : Int32)) (a := 2) (by decide); have := lv_neT c_7 (k := (3 : Int32)) (a := 3) (by decide); have := lv_neT c_9 (k := (4 : Int32)) (a := 4) (by decide); have := lv_neT c_11 (k := (5 : Int32)) (a := 5) (by decide); have := lv_neT c_12 (k := (6 : Int32)) (a := 6) (by decide); omega) (by decide) ?_
  refine lv_aload_n hx hb dX3_changeAccumulator_162 rfl (lv_at hl 2 rfl) ?_
  refine lv_dup hx hb dX3_changeAccumulator_163 rfl ?_
  refine va_get (ci := 3) (v := .int (f 11)) (C := RX3) (T := TX3) (N := 9) hx hb hts hi3 hown hK hP 0 rfl rfl 3 (by decide) (hts (.fieldLink RX3 13 "InvaderBoard$Processor" "flags" "I") (List.mem_cons_of_mem _ (List.mem_append_left _ (List.mem_append_left _ (List.mem_of_getElem? (i := 1) rfl))))) (fun _ h9 => h9) rfl dX3_changeAccumulator_164 ?_
  refine lv_iconst (v := 1) hx hb dX3_changeAccumulator_167 (by decide) ?_
  refine lv_ixor hx hb dX3_changeAccumulator_168 ?_
  refine pu_P_f11 (v := (f 11) ^^^ (1 : Int32)) hx hb hts hi3 hown hK hP hD hS (hts (.fieldLink RX3 13 "InvaderBoard$Processor" "flags" "I") (List.mem_cons_of_mem _ (List.mem_append_left _ (List.mem_append_left _ (List.mem_of_getElem? (i := 1) rfl))))) dX3_changeAccumulator_169 (fun H locs hP hD hS => ?_)
  have hF : xChangeAcc f a p1 = (upd f 11 ((f 11) ^^^ (1 : Int32)), a) := by
    unfold xChangeAcc
    refine (if_neg c_1).trans ?_
    refine (if_neg c_3).trans ?_
    refine (if_neg c_5).trans ?_
    refine (if_neg c_7).trans ?_
    refine (if_neg c_9).trans ?_
    refine (if_neg c_11).trans ?_
    refine (if_neg c_12).trans ?_
    rfl
  rw [hF]
  exact KC.retv hx hb hr hlocks hK hP hD hS dX3_changeAccumulator_172
def xLoadOrStore (f : Nat → Int32) (a : Nat → Nat → Int32) (p1 : Int32) : (Nat → Int32) × (Nat → Nat → Int32) :=
  if p1 = (0 : Int32) then (f, ua a 1 (xWrite a (xPairAt f a (0 : Int32)) ((a 2) (7 : Int32).toNatClampNeg)))
  else if p1 = (1 : Int32) then (f, ua a 2 (upd (a 2) (7 : Int32).toNatClampNeg (xRead a (xPairAt f a (0 : Int32)))))
    else if p1 = (2 : Int32) then (f, ua a 1 (xWrite a (xPairAt f a (2 : Int32)) ((a 2) (7 : Int32).toNatClampNeg)))
      else if p1 = (3 : Int32) then (f, ua a 2 (upd (a 2) (7 : Int32).toNatClampNeg (xRead a (xPairAt f a (2 : Int32)))))
        else if p1 = (4 : Int32) then (match xFetchWord f a with
            | (r_6, f_6) => (f_6, ua a 1 (xWriteWord a r_6 (xPairAt f_6 a (4 : Int32)))))
          else if p1 = (5 : Int32) then (match xFetchWord f a with
              | (r_8, f_8) => (f_8, xSetPairAt f_8 a (4 : Int32) (xReadWord a r_8)))
            else if p1 = (6 : Int32) then (match xFetchWord f a with
                | (r_10, f_10) => (f_10, ua a 1 (xWrite a r_10 ((a 2) (7 : Int32).toNatClampNeg))))
              else (match xFetchWord f a with
                | (r_11, f_11) => (f_11, ua a 2 (upd (a 2) (7 : Int32).toNatClampNeg (xRead a r_11))))
set_option maxHeartbeats 4000000 in
set_option maxRecDepth 100000 in
theorem kX3_loadOrStore (l : Launch) (D : va_G) (cI : ClassId) (o : Nat → Nat) (f : Nat → Int32) (a : Nat → Nat → Int32) (p1 : Int32) : KC l yX3_loadOrStore wsX3_loadOrStore 3 [.ref (o 0), .int p1] D cI (wP cI o f a) (wP cI o ((xLoadOrStore f a p1).1) ((xLoadOrStore f a p1).2)) none := by
  refine KC.of (cc := cX3_loadOrStore) (maxL := 2) (by decide) rfl (Nat.le_of_ble_eq_true rfl) ?_
  intro p e s m below meth c A hx hb hr hts hown hlocks hml hK hP hD hS hA ls hl
  have hl : lv_has ls 2 [(0, .ref (o 0)), (1, .int p1)] := hl
  have hown : s.vm.findClass RX3 = some m.cls := hown
  have hi3 : ∀ w ∈ u_ws RX3 TX3 9, w ∈ wsX3_loadOrStore := fun w h => List.mem_cons_of_mem _ (List.mem_append_left _ (List.mem_append_right _ h))
  refine lv_iload_n hx hb dX3_loadOrStore_0 rfl (lv_at hl 1 rfl) ?_
  by_cases c_1 : p1 = (0 : Int32)
  · refine k_tin (tgt := 44) hx hb (0 : Int32) c_1 dX3_loadOrStore_1 (by decide) (by decide) rfl (by decide) ?_
    refine lv_aload_n hx hb dX3_loadOrStore_44 rfl (lv_at hl 0 rfl) ?_
    refine va_get (ci := 3) (v := .ref (o 2)) (C := RX3) (T := TX3) (N := 9) hx hb hts hi3 hown hK hP 0 rfl rfl 0 (by decide) (hts (.fieldLink RX3 17 "InvaderBoard$Processor" "store" "LInvaderBoard$Memory;") (List.mem_cons_of_mem _ (List.mem_append_left _ (List.mem_append_left _ (List.mem_append_left _ (List.mem_of_getElem? (i := 0) rfl)))))) (fun _ h9 => h9) rfl dX3_loadOrStore_45 ?_
    refine lv_aload_n hx hb dX3_loadOrStore_48 rfl (lv_at hl 0 rfl) ?_
    refine lv_iconst (v := 0) hx hb dX3_loadOrStore_49 (by decide) ?_
    refine KC.calli (ci := 3) (rest := [.ref (o 2)]) (wt := wP cI o f a) (kX3_pairAt l D cI o f a (0 : Int32)) (cwV 1 hts gX3_loadOrStore_X3_pairAt rfl rfl rfl (by decide +kernel) ⟨Nat.le_of_ble_eq_true rfl, Nat.le_of_ble_eq_true rfl⟩) ⟨hx, hb, hml, hown, hts⟩ hK hP hD hS hA rfl rfl rfl [0, 1, 2, 3, 4, 5, 6, 7, 8] [] [0, 1, 2, 3, 4, 5, 6, 7, 8] (by decide) rfl (wr := []) rfl (by decide) (by decide) (by decide) rfl rfl hl.1 rfl (Nat.le_of_ble_eq_true rfl) dX3_loadOrStore_50 ⟨Nat.zero_le _, Nat.zero_le _⟩ (fun H locs hP hD hS => ?_)
    refine lv_aload_n hx hb dX3_loadOrStore_53 rfl (lv_at hl 0 rfl) ?_
    refine va_get (ci := 3) (v := .ref (o 1)) (C := RX3) (T := TX3) (N := 9) hx hb hts hi3 hown hK hP 0 rfl rfl 2 (by decide) (hts (.fieldLink RX3 9 "InvaderBoard$Processor" "registers" "[I") (List.mem_cons_of_mem _ (List.mem_append_left _ (List.mem_append_left _ (List.mem_append_left _ (List.mem_of_getElem? (i := 1) rfl)))))) (fun _ h9 => h9) rfl dX3_loadOrStore_54 ?_
    refine lv_bipush (v := 7) hx hb dX3_loadOrStore_57 (by decide) ?_
    refine va_iald (f := a 2) hx hb hK hP 1 0 rfl rfl (by unfold vp_in; decide) dX3_loadOrStore_59 ?_
    refine KC.callv (ci := 1) (rest := []) (wt := wP cI o f (ua a 1 (xWrite a (xPairAt f a (0 : Int32)) ((a 2) (7 : Int32).toNatClampNeg)))) (kX1_write l D cI o a (xPairAt f a (0 : Int32)) ((a 2) (7 : Int32).toNatClampNeg)) (cwV 2 hts gX3_loadOrStore_X1_write rfl rfl rfl (by decide +kernel) ⟨Nat.le_of_ble_eq_true rfl, Nat.le_of_ble_eq_true rfl⟩) ⟨hx, hb, hml, hown, hts⟩ hK hP hD hS hA rfl rfl rfl [2, 3, 4] [0, 1, 5, 6, 7, 8] [0, 1, 6, 7, 8, 2, 3, 4, 5] (by decide) rfl (wr := [_, _, _, _, _, _]) rfl (by decide) (by decide) (by decide) rfl rfl hl.1 rfl (Nat.le_of_ble_eq_true rfl) dX3_loadOrStore_60 ⟨Nat.zero_le _, Nat.zero_le _⟩ (fun H locs hP hD hS => ?_)
    refine lv_goto (tgt := 209) hx hb dX3_loadOrStore_63 (by decide) ?_
    have hF : xLoadOrStore f a p1 = (f, ua a 1 (xWrite a (xPairAt f a (0 : Int32)) ((a 2) (7 : Int32).toNatClampNeg))) := by
      unfold xLoadOrStore
      refine (if_pos c_1).trans ?_
      rfl
    rw [hF]
    exact KC.retv hx hb hr hlocks hK hP hD hS dX3_loadOrStore_209
  by_cases c_2 : p1 = (1 : Int32)
  · refine k_tin (tgt := 66) hx hb (1 : Int32) c_2 dX3_loadOrStore_1 (by decide) (by decide) rfl (by decide) ?_
    refine lv_aload_n hx hb dX3_loadOrStore_66 rfl (lv_at hl 0 rfl) ?_
    refine va_get (ci := 3) (v := .ref (o 1)) (C := RX3) (T := TX3) (N := 9) hx hb hts hi3 hown hK hP 0 rfl rfl 2 (by decide) (hts (.fieldLink RX3 9 "InvaderBoard$Processor" "registers" "[I") (List.mem_cons_of_mem _ (List.mem_append_left _ (List.mem_append_left _ (List.mem_append_left _ (List.mem_of_getElem? (i := 1) rfl)))))) (fun _ h9 => h9) rfl dX3_loadOrStore_67 ?_
    refine lv_bipush (v := 7) hx hb dX3_loadOrStore_70 (by decide) ?_
    refine lv_aload_n hx hb dX3_loadOrStore_72 rfl (lv_at hl 0 rfl) ?_
    refine va_get (ci := 3) (v := .ref (o 2)) (C := RX3) (T := TX3) (N := 9) hx hb hts hi3 hown hK hP 0 rfl rfl 0 (by decide) (hts (.fieldLink RX3 17 "InvaderBoard$Processor" "store" "LInvaderBoard$Memory;") (List.mem_cons_of_mem _ (List.mem_append_left _ (List.mem_append_left _ (List.mem_append_left _ (List.mem_of_getElem? (i := 0) rfl)))))) (fun _ h9 => h9) rfl dX3_loadOrStore_73 ?_
    refine lv_aload_n hx hb dX3_loadOrStore_76 rfl (lv_at hl 0 rfl) ?_
    refine lv_iconst (v := 0) hx hb dX3_loadOrStore_77 (by decide) ?_
    refine KC.calli (ci := 3) (rest := [.ref (o 2), .int (7 : Int32), .ref (o 1)]) (wt := wP cI o f a) (kX3_pairAt l D cI o f a (0 : Int32)) (cwV 1 hts gX3_loadOrStore_X3_pairAt rfl rfl rfl (by decide +kernel) ⟨Nat.le_of_ble_eq_true rfl, Nat.le_of_ble_eq_true rfl⟩) ⟨hx, hb, hml, hown, hts⟩ hK hP hD hS hA rfl rfl rfl [0, 1, 2, 3, 4, 5, 6, 7, 8] [] [0, 1, 2, 3, 4, 5, 6, 7, 8] (by decide) rfl (wr := []) rfl (by decide) (by decide) (by decide) rfl rfl hl.1 rfl (Nat.le_of_ble_eq_true rfl) dX3_loadOrStore_78 ⟨Nat.zero_le _, Nat.zero_le _⟩ (fun H locs hP hD hS => ?_)
    refine KC.calli (ci := 1) (rest := [.int (7 : Int32), .ref (o 1)]) (wt := wP cI o f a) (kX1_read l D cI o a (xPairAt f a (0 : Int32))) (cwV 1 hts gX3_loadOrStore_X1_read rfl rfl rfl (by decide +kernel) ⟨Nat.le_of_ble_eq_true rfl, Nat.le_of_ble_eq_true rfl⟩) ⟨hx, hb, hml, hown, hts⟩ hK hP hD hS hA rfl rfl rfl [2, 3, 4] [0, 1, 5, 6, 7, 8] [0, 1, 6, 7, 8, 2, 3, 4, 5] (by decide) rfl (wr := [_, _, _, _, _, _]) rfl (by decide) (by decide) (by decide) rfl rfl hl.1 rfl (Nat.le_of_ble_eq_true rfl) dX3_loadOrStore_81 ⟨Nat.zero_le _, Nat.zero_le _⟩ (fun H locs hP hD hS => ?_)
    refine pu_P_a2 hx hb hK hP hD hS (by unfold vp_in; decide) dX3_loadOrStore_84 (fun H locs hP hD hS => ?_)
    refine lv_goto (tgt := 209) hx hb dX3_loadOrStore_85 (by decide) ?_
    have hF : xLoadOrStore f a p1 = (f, ua a 2 (upd (a 2) (7 : Int32).toNatClampNeg (xRead a (xPairAt f a (0 : Int32))))) := by
      unfold xLoadOrStore
      refine (if_neg c_1).trans ?_
      refine (if_pos c_2).trans ?_
      rfl
    rw [hF]
    exact KC.retv hx hb hr hlocks hK hP hD hS dX3_loadOrStore_209
  by_cases c_3 : p1 = (2 : Int32)
  · refine k_tin (tgt := 88) hx hb (2 : Int32) c_3 dX3_loadOrStore_1 (by decide) (by decide) rfl (by decide) ?_
    refine lv_aload_n hx hb dX3_loadOrStore_88 rfl (lv_at hl 0 rfl) ?_
    refine va_get (ci := 3) (v := .ref (o 2)) (C := RX3) (T := TX3) (N := 9) hx hb hts hi3 hown hK hP 0 rfl rfl 0 (by decide) (hts (.fieldLink RX3 17 "InvaderBoard$Processor" "store" "LInvaderBoard$Memory;") (List.mem_cons_of_mem _ (List.mem_append_left _ (List.mem_append_left _ (List.mem_append_left _ (List.mem_of_getElem? (i := 0) rfl)))))) (fun _ h9 => h9) rfl dX3_loadOrStore_89 ?_
    refine lv_aload_n hx hb dX3_loadOrStore_92 rfl (lv_at hl 0 rfl) ?_
    refine lv_iconst (v := 2) hx hb dX3_loadOrStore_93 (by decide) ?_
    refine KC.calli (ci := 3) (rest := [.ref (o 2)]) (wt := wP cI o f a) (kX3_pairAt l D cI o f a (2 : Int32)) (cwV 1 hts gX3_loadOrStore_X3_pairAt rfl rfl rfl (by decide +kernel) ⟨Nat.le_of_ble_eq_true rfl, Nat.le_of_ble_eq_true rfl⟩) ⟨hx, hb, hml, hown, hts⟩ hK hP hD hS hA rfl rfl rfl [0, 1, 2, 3, 4, 5, 6, 7, 8] [] [0, 1, 2, 3, 4, 5, 6, 7, 8] (by decide) rfl (wr := []) rfl (by decide) (by decide) (by decide) rfl rfl hl.1 rfl (Nat.le_of_ble_eq_true rfl) dX3_loadOrStore_94 ⟨Nat.zero_le _, Nat.zero_le _⟩ (fun H locs hP hD hS => ?_)
    refine lv_aload_n hx hb dX3_loadOrStore_97 rfl (lv_at hl 0 rfl) ?_
    refine va_get (ci := 3) (v := .ref (o 1)) (C := RX3) (T := TX3) (N := 9) hx hb hts hi3 hown hK hP 0 rfl rfl 2 (by decide) (hts (.fieldLink RX3 9 "InvaderBoard$Processor" "registers" "[I") (List.mem_cons_of_mem _ (List.mem_append_left _ (List.mem_append_left _ (List.mem_append_left _ (List.mem_of_getElem? (i := 1) rfl)))))) (fun _ h9 => h9) rfl dX3_loadOrStore_98 ?_
    refine lv_bipush (v := 7) hx hb dX3_loadOrStore_101 (by decide) ?_
    refine va_iald (f := a 2) hx hb hK hP 1 0 rfl rfl (by unfold vp_in; decide) dX3_loadOrStore_103 ?_
    refine KC.callv (ci := 1) (rest := []) (wt := wP cI o f (ua a 1 (xWrite a (xPairAt f a (2 : Int32)) ((a 2) (7 : Int32).toNatClampNeg)))) (kX1_write l D cI o a (xPairAt f a (2 : Int32)) ((a 2) (7 : Int32).toNatClampNeg)) (cwV 2 hts gX3_loadOrStore_X1_write rfl rfl rfl (by decide +kernel) ⟨Nat.le_of_ble_eq_true rfl, Nat.le_of_ble_eq_true rfl⟩) ⟨hx, hb, hml, hown, hts⟩ hK hP hD hS hA rfl rfl rfl [2, 3, 4] [0, 1, 5, 6, 7, 8] [0, 1, 6, 7, 8, 2, 3, 4, 5] (by decide) rfl (wr := [_, _, _, _, _, _]) rfl (by decide) (by decide) (by decide) rfl rfl hl.1 rfl (Nat.le_of_ble_eq_true rfl) dX3_loadOrStore_104 ⟨Nat.zero_le _, Nat.zero_le _⟩ (fun H locs hP hD hS => ?_)
    refine lv_goto (tgt := 209) hx hb dX3_loadOrStore_107 (by decide) ?_
    have hF : xLoadOrStore f a p1 = (f, ua a 1 (xWrite a (xPairAt f a (2 : Int32)) ((a 2) (7 : Int32).toNatClampNeg))) := by
      unfold xLoadOrStore
      refine (if_neg c_1).trans ?_
      refine (if_neg c_2).trans ?_
      refine (if_pos c_3).trans ?_
      rfl
    rw [hF]
    exact KC.retv hx hb hr hlocks hK hP hD hS dX3_loadOrStore_209
  by_cases c_4 : p1 = (3 : Int32)
  · refine k_tin (tgt := 110) hx hb (3 : Int32) c_4 dX3_loadOrStore_1 (by decide) (by decide) rfl (by decide) ?_
    refine lv_aload_n hx hb dX3_loadOrStore_110 rfl (lv_at hl 0 rfl) ?_
    refine va_get (ci := 3) (v := .ref (o 1)) (C := RX3) (T := TX3) (N := 9) hx hb hts hi3 hown hK hP 0 rfl rfl 2 (by decide) (hts (.fieldLink RX3 9 "InvaderBoard$Processor" "registers" "[I") (List.mem_cons_of_mem _ (List.mem_append_left _ (List.mem_append_left _ (List.mem_append_left _ (List.mem_of_getElem? (i := 1) rfl)))))) (fun _ h9 => h9) rfl dX3_loadOrStore_111 ?_
    refine lv_bipush (v := 7) hx hb dX3_loadOrStore_114 (by decide) ?_
    refine lv_aload_n hx hb dX3_loadOrStore_116 rfl (lv_at hl 0 rfl) ?_
    refine va_get (ci := 3) (v := .ref (o 2)) (C := RX3) (T := TX3) (N := 9) hx hb hts hi3 hown hK hP 0 rfl rfl 0 (by decide) (hts (.fieldLink RX3 17 "InvaderBoard$Processor" "store" "LInvaderBoard$Memory;") (List.mem_cons_of_mem _ (List.mem_append_left _ (List.mem_append_left _ (List.mem_append_left _ (List.mem_of_getElem? (i := 0) rfl)))))) (fun _ h9 => h9) rfl dX3_loadOrStore_117 ?_
    refine lv_aload_n hx hb dX3_loadOrStore_120 rfl (lv_at hl 0 rfl) ?_
    refine lv_iconst (v := 2) hx hb dX3_loadOrStore_121 (by decide) ?_
    refine KC.calli (ci := 3) (rest := [.ref (o 2), .int (7 : Int32), .ref (o 1)]) (wt := wP cI o f a) (kX3_pairAt l D cI o f a (2 : Int32)) (cwV 1 hts gX3_loadOrStore_X3_pairAt rfl rfl rfl (by decide +kernel) ⟨Nat.le_of_ble_eq_true rfl, Nat.le_of_ble_eq_true rfl⟩) ⟨hx, hb, hml, hown, hts⟩ hK hP hD hS hA rfl rfl rfl [0, 1, 2, 3, 4, 5, 6, 7, 8] [] [0, 1, 2, 3, 4, 5, 6, 7, 8] (by decide) rfl (wr := []) rfl (by decide) (by decide) (by decide) rfl rfl hl.1 rfl (Nat.le_of_ble_eq_true rfl) dX3_loadOrStore_122 ⟨Nat.zero_le _, Nat.zero_le _⟩ (fun H locs hP hD hS => ?_)
    refine KC.calli (ci := 1) (rest := [.int (7 : Int32), .ref (o 1)]) (wt := wP cI o f a) (kX1_read l D cI o a (xPairAt f a (2 : Int32))) (cwV 1 hts gX3_loadOrStore_X1_read rfl rfl rfl (by decide +kernel) ⟨Nat.le_of_ble_eq_true rfl, Nat.le_of_ble_eq_true rfl⟩) ⟨hx, hb, hml, hown, hts⟩ hK hP hD hS hA rfl rfl rfl [2, 3, 4] [0, 1, 5, 6, 7, 8] [0, 1, 6, 7, 8, 2, 3, 4, 5] (by decide) rfl (wr := [_, _, _, _, _, _]) rfl (by decide) (by decide) (by decide) rfl rfl hl.1 rfl (Nat.le_of_ble_eq_true rfl) dX3_loadOrStore_125 ⟨Nat.zero_le _, Nat.zero_le _⟩ (fun H locs hP hD hS => ?_)
    refine pu_P_a2 hx hb hK hP hD hS (by unfold vp_in; decide) dX3_loadOrStore_128 (fun H locs hP hD hS => ?_)
    refine lv_goto (tgt := 209) hx hb dX3_loadOrStore_129 (by decide) ?_
    have hF : xLoadOrStore f a p1 = (f, ua a 2 (upd (a 2) (7 : Int32).toNatClampNeg (xRead a (xPairAt f a (2 : Int32))))) := by
      unfold xLoadOrStore
      refine (if_neg c_1).trans ?_
      refine (if_neg c_2).trans ?_
      refine (if_neg c_3).trans ?_
      refine (if_pos c_4).trans ?_
      rfl
    rw [hF]
    exact KC.retv hx hb hr hlocks hK hP hD hS dX3_loadOrStore_209
  by_cases c_5 : p1 = (4 : Int32)
  · refine k_tin (tgt := 132) hx hb (4 : Int32) c_5 dX3_loadOrStore_1 (by decide) (by decide) rfl (by decide) ?_
    refine lv_aload_n hx hb dX3_loadOrStore_132 rfl (lv_at hl 0 rfl) ?_
    refine va_get (ci := 3) (v := .ref (o 2)) (C := RX3) (T := TX3) (N := 9) hx hb hts hi3 hown hK hP 0 rfl rfl 0 (by decide) (hts (.fieldLink RX3 17 "InvaderBoard$Processor" "store" "LInvaderBoard$Memory;") (List.mem_cons_of_mem _ (List.mem_append_left _ (List.mem_append_left _ (List.mem_append_left _ (List.mem_of_getElem? (i := 0) rfl)))))) (fun _ h9 => h9) rfl dX3_loadOrStore_133 ?_
    refine lv_aload_n hx hb dX3_loadOrStore_136 rfl (lv_at hl 0 rfl) ?_
    obtain ⟨r_6, f_6, hB_6⟩ := k_ex2 (xFetchWord f a)
    have kc_6 := kX3_fetchWord l D cI o f a
    rw [hB_6] at kc_6; dsimp only at kc_6
    refine KC.calli (ci := 3) (rest := [.ref (o 2)]) (wt := wP cI o f_6 a) (kc_6) (cwV 0 hts gX3_loadOrStore_X3_fetchWord rfl rfl rfl (by decide +kernel) ⟨Nat.le_of_ble_eq_true rfl, Nat.le_of_ble_eq_true rfl⟩) ⟨hx, hb, hml, hown, hts⟩ hK hP hD hS hA rfl rfl rfl [0, 1, 2, 3, 4, 5, 6, 7, 8] [] [0, 1, 2, 3, 4, 5, 6, 7, 8] (by decide) rfl (wr := []) rfl (by decide) (by decide) (by decide) rfl rfl hl.1 rfl (Nat.le_of_ble_eq_true rfl) dX3_loadOrStore_137 ⟨Nat.zero_le _, Nat.zero_le _⟩ (fun H locs hP hD hS => ?_)
    refine lv_aload_n hx hb dX3_loadOrStore_140 rfl (lv_at hl 0 rfl) ?_
    refine lv_iconst (v := 4) hx hb dX3_loadOrStore_141 (by decide) ?_
    refine KC.calli (ci := 3) (rest := [.int r_6, .ref (o 2)]) (wt := wP cI o f_6 a) (kX3_pairAt l D cI o f_6 a (4 : Int32)) (cwV 1 hts gX3_loadOrStore_X3_pairAt rfl rfl rfl (by decide +kernel) ⟨Nat.le_of_ble_eq_true rfl, Nat.le_of_ble_eq_true rfl⟩) ⟨hx, hb, hml, hown, hts⟩ hK hP hD hS hA rfl rfl rfl [0, 1, 2, 3, 4, 5, 6, 7, 8] [] [0, 1, 2, 3, 4, 5, 6, 7, 8] (by decide) rfl (wr := []) rfl (by decide) (by decide) (by decide) rfl rfl hl.1 rfl (Nat.le_of_ble_eq_true rfl) dX3_loadOrStore_142 ⟨Nat.zero_le _, Nat.zero_le _⟩ (fun H locs hP hD hS => ?_)
    refine KC.callv (ci := 1) (rest := []) (wt := wP cI o f_6 (ua a 1 (xWriteWord a r_6 (xPairAt f_6 a (4 : Int32))))) (kX1_writeWord l D cI o a r_6 (xPairAt f_6 a (4 : Int32))) (cwV 2 hts gX3_loadOrStore_X1_writeWord rfl rfl rfl (by decide +kernel) ⟨Nat.le_of_ble_eq_true rfl, Nat.le_of_ble_eq_true rfl⟩) ⟨hx, hb, hml, hown, hts⟩ hK hP hD hS hA rfl rfl rfl [2, 3, 4] [0, 1, 5, 6, 7, 8] [0, 1, 6, 7, 8, 2, 3, 4, 5] (by decide) rfl (wr := [_, _, _, _, _, _]) rfl (by decide) (by decide) (by decide) rfl rfl hl.1 rfl (Nat.le_of_ble_eq_true rfl) dX3_loadOrStore_145 ⟨Nat.zero_le _, Nat.zero_le _⟩ (fun H locs hP hD hS => ?_)
    refine lv_goto (tgt := 209) hx hb dX3_loadOrStore_148 (by decide) ?_
    have hF : xLoadOrStore f a p1 = (f_6, ua a 1 (xWriteWord a r_6 (xPairAt f_6 a (4 : Int32)))) := by
      unfold xLoadOrStore
      refine (if_neg c_1).trans ?_
      refine (if_neg c_2).trans ?_
      refine (if_neg c_3).trans ?_
      refine (if_neg c_4).trans ?_
      refine (if_pos c_5).trans ?_
      rewrite [hB_6]
      rfl
    rw [hF]
    exact KC.retv hx hb hr hlocks hK hP hD hS dX3_loadOrStore_209
  by_cases c_7 : p1 = (5 : Int32)
  · refine k_tin (tgt := 151) hx hb (5 : Int32) c_7 dX3_loadOrStore_1 (by decide) (by decide) rfl (by decide) ?_
    refine lv_aload_n hx hb dX3_loadOrStore_151 rfl (lv_at hl 0 rfl) ?_
    refine lv_iconst (v := 4) hx hb dX3_loadOrStore_152 (by decide) ?_
    refine lv_aload_n hx hb dX3_loadOrStore_153 rfl (lv_at hl 0 rfl) ?_
    refine va_get (ci := 3) (v := .ref (o 2)) (C := RX3) (T := TX3) (N := 9) hx hb hts hi3 hown hK hP 0 rfl rfl 0 (by decide) (hts (.fieldLink RX3 17 "InvaderBoard$Processor" "store" "LInvaderBoard$Memory;") (List.mem_cons_of_mem _ (List.mem_append_left _ (List.mem_append_left _ (List.mem_append_left _ (List.mem_of_getElem? (i := 0) rfl)))))) (fun _ h9 => h9) rfl dX3_loadOrStore_154 ?_
    refine lv_aload_n hx hb dX3_loadOrStore_157 rfl (lv_at hl 0 rfl) ?_
    obtain ⟨r_8, f_8, hB_8⟩ := k_ex2 (xFetchWord f a)
    have kc_8 := kX3_fetchWord l D cI o f a
    rw [hB_8] at kc_8; dsimp only at kc_8
    refine KC.calli (ci := 3) (rest := [.ref (o 2), .int (4 : Int32), .ref (o 0)]) (wt := wP cI o f_8 a) (kc_8) (cwV 0 hts gX3_loadOrStore_X3_fetchWord rfl rfl rfl (by decide +kernel) ⟨Nat.le_of_ble_eq_true rfl, Nat.le_of_ble_eq_true rfl⟩) ⟨hx, hb, hml, hown, hts⟩ hK hP hD hS hA rfl rfl rfl [0, 1, 2, 3, 4, 5, 6, 7, 8] [] [0, 1, 2, 3, 4, 5, 6, 7, 8] (by decide) rfl (wr := []) rfl (by decide) (by decide) (by decide) rfl rfl hl.1 rfl (Nat.le_of_ble_eq_true rfl) dX3_loadOrStore_158 ⟨Nat.zero_le _, Nat.zero_le _⟩ (fun H locs hP hD hS => ?_)
    refine KC.calli (ci := 1) (rest := [.int (4 : Int32), .ref (o 0)]) (wt := wP cI o f_8 a) (kX1_readWord l D cI o a r_8) (cwV 1 hts gX3_loadOrStore_X1_readWord rfl rfl rfl (by decide +kernel) ⟨Nat.le_of_ble_eq_true rfl, Nat.le_of_ble_eq_true rfl⟩) ⟨hx, hb, hml, hown, hts⟩ hK hP hD hS hA rfl rfl rfl [2, 3, 4] [0, 1, 5, 6, 7, 8] [0, 1, 6, 7, 8, 2, 3, 4, 5] (by decide) rfl (wr := [_, _, _, _, _, _]) rfl (by decide) (by decide) (by decide) rfl rfl hl.1 rfl (Nat.le_of_ble_eq_true rfl) dX3_loadOrStore_161 ⟨Nat.zero_le _, Nat.zero_le _⟩ (fun H locs hP hD hS => ?_)
    refine KC.callv (ci := 3) (rest := []) (wt := wP cI o f_8 (xSetPairAt f_8 a (4 : Int32) (xReadWord a r_8))) (kX3_setPairAt l D cI o f_8 a (4 : Int32) (xReadWord a r_8)) (cwV 2 hts gX3_loadOrStore_X3_setPairAt rfl rfl rfl (by decide +kernel) ⟨Nat.le_of_ble_eq_true rfl, Nat.le_of_ble_eq_true rfl⟩) ⟨hx, hb, hml, hown, hts⟩ hK hP hD hS hA rfl rfl rfl [0, 1, 2, 3, 4, 5, 6, 7, 8] [] [0, 1, 2, 3, 4, 5, 6, 7, 8] (by decide) rfl (wr := []) rfl (by decide) (by decide) (by decide) rfl rfl hl.1 rfl (Nat.le_of_ble_eq_true rfl) dX3_loadOrStore_164 ⟨Nat.zero_le _, Nat.zero_le _⟩ (fun H locs hP hD hS => ?_)
    refine lv_goto (tgt := 209) hx hb dX3_loadOrStore_167 (by decide) ?_
    have hF : xLoadOrStore f a p1 = (f_8, xSetPairAt f_8 a (4 : Int32) (xReadWord a r_8)) := by
      unfold xLoadOrStore
      refine (if_neg c_1).trans ?_
      refine (if_neg c_2).trans ?_
      refine (if_neg c_3).trans ?_
      refine (if_neg c_4).trans ?_
      refine (if_neg c_5).trans ?_
      refine (if_pos c_7).trans ?_
      rewrite [hB_8]
      rfl
    rw [hF]
    exact KC.retv hx hb hr hlocks hK hP hD hS dX3_loadOrStore_209
  by_cases c_9 : p1 = (6 : Int32)
  · refine k_tin (tgt := 170) hx hb (6 : Int32) c_9 dX3_loadOrStore_1 (by decide) (by decide) rfl (by decide) ?_
    refine lv_aload_n hx hb dX3_loadOrStore_170 rfl (lv_at hl 0 rfl) ?_
    refine va_get (ci := 3) (v := .ref (o 2)) (C := RX3) (T := TX3) (N := 9) hx hb hts hi3 hown hK hP 0 rfl rfl 0 (by decide) (hts (.fieldLink RX3 17 "InvaderBoard$Processor" "store" "LInvaderBoard$Memory;") (List.mem_cons_of_mem _ (List.mem_append_left _ (List.mem_append_left _ (List.mem_append_left _ (List.mem_of_getElem? (i := 0) rfl)))))) (fun _ h9 => h9) rfl dX3_loadOrStore_171 ?_
    refine lv_aload_n hx hb dX3_loadOrStore_174 rfl (lv_at hl 0 rfl) ?_
    obtain ⟨r_10, f_10, hB_10⟩ := k_ex2 (xFetchWord f a)
    have kc_10 := kX3_fetchWord l D cI o f a
    rw [hB_10] at kc_10; dsimp only at kc_10
    refine KC.calli (ci := 3) (rest := [.ref (o 2)]) (wt := wP cI o f_10 a) (kc_10) (cwV 0 hts gX3_loadOrStore_X3_fetchWord rfl rfl rfl (by decide +kernel) ⟨Nat.le_of_ble_eq_true rfl, Nat.le_of_ble_eq_true rfl⟩) ⟨hx, hb, hml, hown, hts⟩ hK hP hD hS hA rfl rfl rfl [0, 1, 2, 3, 4, 5, 6, 7, 8] [] [0, 1, 2, 3, 4, 5, 6, 7, 8] (by decide) rfl (wr := []) rfl (by decide) (by decide) (by decide) rfl rfl hl.1 rfl (Nat.le_of_ble_eq_true rfl) dX3_loadOrStore_175 ⟨Nat.zero_le _, Nat.zero_le _⟩ (fun H locs hP hD hS => ?_)
    refine lv_aload_n hx hb dX3_loadOrStore_178 rfl (lv_at hl 0 rfl) ?_
    refine va_get (ci := 3) (v := .ref (o 1)) (C := RX3) (T := TX3) (N := 9) hx hb hts hi3 hown hK hP 0 rfl rfl 2 (by decide) (hts (.fieldLink RX3 9 "InvaderBoard$Processor" "registers" "[I") (List.mem_cons_of_mem _ (List.mem_append_left _ (List.mem_append_left _ (List.mem_append_left _ (List.mem_of_getElem? (i := 1) rfl)))))) (fun _ h9 => h9) rfl dX3_loadOrStore_179 ?_
    refine lv_bipush (v := 7) hx hb dX3_loadOrStore_182 (by decide) ?_
    refine va_iald (f := a 2) hx hb hK hP 1 0 rfl rfl (by unfold vp_in; decide) dX3_loadOrStore_184 ?_
    refine KC.callv (ci := 1) (rest := []) (wt := wP cI o f_10 (ua a 1 (xWrite a r_10 ((a 2) (7 : Int32).toNatClampNeg)))) (kX1_write l D cI o a r_10 ((a 2) (7 : Int32).toNatClampNeg)) (cwV 2 hts gX3_loadOrStore_X1_write rfl rfl rfl (by decide +kernel) ⟨Nat.le_of_ble_eq_true rfl, Nat.le_of_ble_eq_true rfl⟩) ⟨hx, hb, hml, hown, hts⟩ hK hP hD hS hA rfl rfl rfl [2, 3, 4] [0, 1, 5, 6, 7, 8] [0, 1, 6, 7, 8, 2, 3, 4, 5] (by decide) rfl (wr := [_, _, _, _, _, _]) rfl (by decide) (by decide) (by decide) rfl rfl hl.1 rfl (Nat.le_of_ble_eq_true rfl) dX3_loadOrStore_185 ⟨Nat.zero_le _, Nat.zero_le _⟩ (fun H locs hP hD hS => ?_)
    refine lv_goto (tgt := 209) hx hb dX3_loadOrStore_188 (by decide) ?_
    have hF : xLoadOrStore f a p1 = (f_10, ua a 1 (xWrite a r_10 ((a 2) (7 : Int32).toNatClampNeg))) := by
      unfold xLoadOrStore
      refine (if_neg c_1).trans ?_
      refine (if_neg c_2).trans ?_
      refine (if_neg c_3).trans ?_
      refine (if_neg c_4).trans ?_
      refine (if_neg c_5).trans ?_
      refine (if_neg c_7).trans ?_
      refine (if_pos c_9).trans ?_
      rewrite [hB_10]
      rfl
    rw [hF]
    exact KC.retv hx hb hr hlocks hK hP hD hS dX3_loadOrStore_209
  refine lv_tableOut (tgt := 191) hx hb dX3_loadOrStore_1 (by have := lv_neT c_1 (k := (0 : Int32)) (a := 0) (by decide); have := lv_neT c_2 (k := (1 : Int32)) (a := 1) (by decide); have := lv_neT c_3 (k := (2 : Int32)) (a := 2) (by decide); have := lv_neT c_4 (k := (3 : Int32)) (a := 3) (by decide); have := lv_neT c_5 (k := (4 : Int32)) (a := 4) (by decide); have := lv_neT c_7 (k := (5 : Int32)) (a := 5) (by decide); have := lv_neT c_9 (k := (6 : Int32)) (a := 6) (by decide); omega) (by decide) ?_
  refine lv_aload_n hx hb dX3_loadOrStore_191 rfl (lv_at hl 0 rfl) ?_
  refine va_get (ci := 3) (v := .ref (o 1)) (C := RX3) (T := TX3) (N := 9) hx hb hts hi3 hown hK hP 0 rfl rfl 2 (by decide) (hts (.fieldLink RX3 9 "InvaderBoard$Processor" "registers" "[I") (List.mem_cons_of_mem _ (List.mem_append_left _ (List.mem_append_left _ (List.mem_append_left _ (List.mem_of_getElem? (i := 1) rfl)))))) (fun _ h9 => h9) rfl dX3_loadOrStore_192 ?_
  refine lv_bipush (v := 7) hx hb dX3_loadOrStore_195 (by decide) ?_
  refine lv_aload_n hx hb dX3_loadOrStore_197 rfl (lv_at hl 0 rfl) ?_
  refine va_get (ci := 3) (v := .ref (o 2)) (C := RX3) (T := TX3) (N := 9) hx hb hts hi3 hown hK hP 0 rfl rfl 0 (by decide) (hts (.fieldLink RX3 17 "InvaderBoard$Processor" "store" "LInvaderBoard$Memory;") (List.mem_cons_of_mem _ (List.mem_append_left _ (List.mem_append_left _ (List.mem_append_left _ (List.mem_of_getElem? (i := 0) rfl)))))) (fun _ h9 => h9) rfl dX3_loadOrStore_198 ?_
  refine lv_aload_n hx hb dX3_loadOrStore_201 rfl (lv_at hl 0 rfl) ?_
  obtain ⟨r_11, f_11, hB_11⟩ := k_ex2 (xFetchWord f a)
  have kc_11 := kX3_fetchWord l D cI o f a
  rw [hB_11] at kc_11; dsimp only at kc_11
  refine KC.calli (ci := 3) (rest := [.ref (o 2), .int (7 : Int32), .ref (o 1)]) (wt := wP cI o f_11 a) (kc_11) (cwV 0 hts gX3_loadOrStore_X3_fetchWord rfl rfl rfl (by decide +kernel) ⟨Nat.le_of_ble_eq_true rfl, Nat.le_of_ble_eq_true rfl⟩) ⟨hx, hb, hml, hown, hts⟩ hK hP hD hS hA rfl rfl rfl [0, 1, 2, 3, 4, 5, 6, 7, 8] [] [0, 1, 2, 3, 4, 5, 6, 7, 8] (by decide) rfl (wr := []) rfl (by decide) (by decide) (by decide) rfl rfl hl.1 rfl (Nat.le_of_ble_eq_true rfl) dX3_loadOrStore_202 ⟨Nat.zero_le _, Nat.zero_le _⟩ (fun H locs hP hD hS => ?_)
  refine KC.calli (ci := 1) (rest := [.int (7 : Int32), .ref (o 1)]) (wt := wP cI o f_11 a) (kX1_read l D cI o a r_11) (cwV 1 hts gX3_loadOrStore_X1_read rfl rfl rfl (by decide +kernel) ⟨Nat.le_of_ble_eq_true rfl, Nat.le_of_ble_eq_true rfl⟩) ⟨hx, hb, hml, hown, hts⟩ hK hP hD hS hA rfl rfl rfl [2, 3, 4] [0, 1, 5, 6, 7, 8] [0, 1, 6, 7, 8, 2, 3, 4, 5] (by decide) rfl (wr := [_, _, _, _, _, _]) rfl (by decide) (by decide) (by decide) rfl rfl hl.1 rfl (Nat.le_of_ble_eq_true rfl) dX3_loadOrStore_205 ⟨Nat.zero_le _, Nat.zero_le _⟩ (fun H locs hP hD hS => ?_)
  refine pu_P_a2 hx hb hK hP hD hS (by unfold vp_in; decide) dX3_loadOrStore_208 (fun H locs hP hD hS => ?_)
  have hF : xLoadOrStore f a p1 = (f_11, ua a 2 (upd (a 2) (7 : Int32).toNatClampNeg (xRead a r_11))) := by
    unfold xLoadOrStore
    refine (if_neg c_1).trans ?_
    refine (if_neg c_2).trans ?_
    refine (if_neg c_3).trans ?_
    refine (if_neg c_4).trans ?_
    refine (if_neg c_5).trans ?_
    refine (if_neg c_7).trans ?_
    refine (if_neg c_9).trans ?_
    rewrite [hB_11]
    rfl
  rw [hF]
  exact KC.retv hx hb hr hlocks hK hP hD hS dX3_loadOrStore_209
def xContentOf (f : Nat → Int32) (a : Nat → Nat → Int32) (p1 : Int32) : Int32 :=
  if p1 = (6 : Int32) then f 11
  else if p1 = (8 : Int32) then f 0
    else if p1 = (9 : Int32) then f 1
      else if p1 = (10 : Int32) then if f 2 = 0 then (0 : Int32)
          else (1 : Int32)
        else if p1 = (11 : Int32) then if f 4 = 0 then (0 : Int32)
            else (1 : Int32)
          else (a 2) (p1 &&& (7 : Int32)).toNatClampNeg
set_option maxHeartbeats 4000000 in
set_option maxRecDepth 100000 in
theorem kX3_contentOf (l : Launch) (D : va_G) (cI : ClassId) (o : Nat → Nat) (f : Nat → Int32) (a : Nat → Nat → Int32) (p1 : Int32) : KC l yX3_contentOf wsX3_contentOf 0 [.ref (o 0), .int p1] D cI (wP cI o f a) (wP cI o f a) (some (.int (xContentOf f a p1))) := by
  refine KC.of (cc := cX3_contentOf) (maxL := 2) (by decide) rfl (Nat.le_of_ble_eq_true rfl) ?_
  intro p e s m below meth c A hx hb hr hts hown hlocks hml hK hP hD hS hA ls hl
  have hl : lv_has ls 2 [(0, .ref (o 0)), (1, .int p1)] := hl
  have hown : s.vm.findClass RX3 = some m.cls := hown
  have hi3 : ∀ w ∈ u_ws RX3 TX3 9, w ∈ wsX3_contentOf := fun w h => List.mem_cons_of_mem _ (List.mem_append_right _ h)
  refine lv_iload_n hx hb dX3_contentOf_0 rfl (lv_at hl 1 rfl) ?_
  by_cases c_1 : p1 = (6 : Int32)
  · refine k_tin (tgt := 40) hx hb (6 : Int32) c_1 dX3_contentOf_1 (by decide) (by decide) rfl (by decide) ?_
    refine lv_aload_n hx hb dX3_contentOf_40 rfl (lv_at hl 0 rfl) ?_
    refine va_get (ci := 3) (v := .int (f 11)) (C := RX3) (T := TX3) (N := 9) hx hb hts hi3 hown hK hP 0 rfl rfl 3 (by decide) (hts (.fieldLink RX3 13 "InvaderBoard$Processor" "flags" "I") (List.mem_cons_of_mem _ (List.mem_append_left _ (List.mem_of_getElem? (i := 0) rfl)))) (fun _ h9 => h9) rfl dX3_contentOf_41 ?_
    have hF : xContentOf f a p1 = f 11 := by
      unfold xContentOf
      refine (if_pos c_1).trans ?_
      rfl
    rw [hF]
    exact KC.reti hx hb hr hlocks hK hP hD hS dX3_contentOf_44 rfl
  by_cases c_2 : p1 = (8 : Int32)
  · refine k_tin (tgt := 45) hx hb (8 : Int32) c_2 dX3_contentOf_1 (by decide) (by decide) rfl (by decide) ?_
    refine lv_aload_n hx hb dX3_contentOf_45 rfl (lv_at hl 0 rfl) ?_
    refine va_get (ci := 3) (v := .int (f 0)) (C := RX3) (T := TX3) (N := 9) hx hb hts hi3 hown hK hP 0 rfl rfl 4 (by decide) (hts (.fieldLink RX3 25 "InvaderBoard$Processor" "sp" "I") (List.mem_cons_of_mem _ (List.mem_append_left _ (List.mem_of_getElem? (i := 1) rfl)))) (fun _ h9 => h9) rfl dX3_contentOf_46 ?_
    have hF : xContentOf f a p1 = f 0 := by
      unfold xContentOf
      refine (if_neg c_1).trans ?_
      refine (if_pos c_2).trans ?_
      rfl
    rw [hF]
    exact KC.reti hx hb hr hlocks hK hP hD hS dX3_contentOf_49 rfl
  by_cases c_3 : p1 = (9 : Int32)
  · refine k_tin (tgt := 50) hx hb (9 : Int32) c_3 dX3_contentOf_1 (by decide) (by decide) rfl (by decide) ?_
    refine lv_aload_n hx hb dX3_contentOf_50 rfl (lv_at hl 0 rfl) ?_
    refine va_get (ci := 3) (v := .int (f 1)) (C := RX3) (T := TX3) (N := 9) hx hb hts hi3 hown hK hP 0 rfl rfl 5 (by decide) (hts (.fieldLink RX3 28 "InvaderBoard$Processor" "pc" "I") (List.mem_cons_of_mem _ (List.mem_append_left _ (List.mem_of_getElem? (i := 2) rfl)))) (fun _ h9 => h9) rfl dX3_contentOf_51 ?_
    have hF : xContentOf f a p1 = f 1 := by
      unfold xContentOf
      refine (if_neg c_1).trans ?_
      refine (if_neg c_2).trans ?_
      refine (if_pos c_3).trans ?_
      rfl
    rw [hF]
    exact KC.reti hx hb hr hlocks hK hP hD hS dX3_contentOf_54 rfl
  by_cases c_4 : p1 = (10 : Int32)
  · refine k_tin (tgt := 55) hx hb (10 : Int32) c_4 dX3_contentOf_1 (by decide) (by decide) rfl (by decide) ?_
    refine lv_aload_n hx hb dX3_contentOf_55 rfl (lv_at hl 0 rfl) ?_
    refine va_get (ci := 3) (v := .int (f 2)) (C := RX3) (T := TX3) (N := 9) hx hb hts hi3 hown hK hP 0 rfl rfl 6 (by decide) (hts (.fieldLink RX3 31 "InvaderBoard$Processor" "enabled" "Z") (List.mem_cons_of_mem _ (List.mem_append_left _ (List.mem_of_getElem? (i := 3) rfl)))) (fun _ h9 => h9) rfl dX3_contentOf_56 ?_
    refine lv_if_eq (tgt := 66) hx hb dX3_contentOf_59 (by decide) (fun c_5 => ?_) (fun c_5 => ?_)
    · refine lv_iconst (v := 0) hx hb dX3_contentOf_66 (by decide) ?_
      have hF : xContentOf f a p1 = (0 : Int32) := by
        unfold xContentOf
        refine (if_neg c_1).trans ?_
        refine (if_neg c_2).trans ?_
        refine (if_neg c_3).trans ?_
        refine (if_pos c_4).trans ?_
        refine (if_pos c_5).trans ?_
        rfl
      rw [hF]
      exact KC.reti hx hb hr hlocks hK hP hD hS dX3_contentOf_67 rfl
    · refine lv_iconst (v := 1) hx hb dX3_contentOf_62 (by decide) ?_
      refine lv_goto (tgt := 67) hx hb dX3_contentOf_63 (by decide) ?_
      have hF : xContentOf f a p1 = (1 : Int32) := by
        unfold xContentOf
        refine (if_neg c_1).trans ?_
        refine (if_neg c_2).trans ?_
        refine (if_neg c_3).trans ?_
        refine (if_pos c_4).trans ?_
        refine (if_neg c_5).trans ?_
        rfl
      rw [hF]
      exact KC.reti hx hb hr hlocks hK hP hD hS dX3_contentOf_67 rfl
  by_cases c_6 : p1 = (11 : Int32)
  · refine k_tin (tgt := 68) hx hb (11 : Int32) c_6 dX3_contentOf_1 (by decide) (by decide) rfl (by decide) ?_
    refine lv_aload_n hx hb dX3_contentOf_68 rfl (lv_at hl 0 rfl) ?_
    refine va_get (ci := 3) (v := .int (f 4)) (C := RX3) (T := TX3) (N := 9) hx hb hts hi3 hown hK hP 0 rfl rfl 8 (by decide) (hts (.fieldLink RX3 38 "InvaderBoard$Processor" "halted" "Z") (List.mem_cons_of_mem _ (List.mem_append_left _ (List.mem_of_getElem? (i := 4) rfl)))) (fun _ h9 => h9) rfl dX3_contentOf_69 ?_
    refine lv_if_eq (tgt := 79) hx hb dX3_contentOf_72 (by decide) (fun c_7 => ?_) (fun c_7 => ?_)
    · refine lv_iconst (v := 0) hx hb dX3_contentOf_79 (by decide) ?_
      have hF : xContentOf f a p1 = (0 : Int32) := by
        unfold xContentOf
        refine (if_neg c_1).trans ?_
        refine (if_neg c_2).trans ?_
        refine (if_neg c_3).trans ?_
        refine (if_neg c_4).trans ?_
        refine (if_pos c_6).trans ?_
        refine (if_pos c_7).trans ?_
        rfl
      rw [hF]
      exact KC.reti hx hb hr hlocks hK hP hD hS dX3_contentOf_80 rfl
    · refine lv_iconst (v := 1) hx hb dX3_contentOf_75 (by decide) ?_
      refine lv_goto (tgt := 80) hx hb dX3_contentOf_76 (by decide) ?_
      have hF : xContentOf f a p1 = (1 : Int32) := by
        unfold xContentOf
        refine (if_neg c_1).trans ?_
        refine (if_neg c_2).trans ?_
        refine (if_neg c_3).trans ?_
        refine (if_neg c_4).trans ?_
        refine (if_pos c_6).trans ?_
        refine (if_neg c_7).trans ?_
        rfl
      rw [hF]
      exact KC.reti hx hb hr hlocks hK hP hD hS dX3_contentOf_80 rfl
  refine k_tdf (tgt := 81) hx hb dX3_contentOf_1 (by intro hr9; have := lv_neT c_1 (k := (6 : Int32)) (a := 6) (by decide); have := lv_neT c_2 (k := (8 : Int32)) (a := 8) (by decide); have := lv_neT c_3 (k := (9 : Int32)) (a := 9) (by decide); have := lv_neT c_4 (k := (10 : Int32)) (a := 10) (by decide); have := lv_neT c_6 (k := (11 : Int32)) (a := 11) (by decide); have : (p1).toInt = 7 := (by omega); rw [this]; rfl) (by decide) ?_
  refine lv_aload_n hx hb dX3_contentOf_81 rfl (lv_at hl 0 rfl) ?_
  refine va_get (ci := 3) (v := .ref (o 1)) (C := RX3) (T := TX3) (N := 9) hx hb hts hi3 hown hK hP 0 rfl rfl 2 (by decide) (hts (.fieldLink RX3 9 "InvaderBoard$Processor" "registers" "[I") (List.mem_cons_of_mem _ (List.mem_append_left _ (List.mem_of_getElem? (i := 5) rfl)))) (fun _ h9 => h9) rfl dX3_contentOf_82 ?_
  refine lv_iload_n hx hb dX3_contentOf_85 rfl (lv_at hl 1 rfl) ?_
  refine lv_bipush (v := 7) hx hb dX3_contentOf_86 (by decide) ?_
  refine lv_iand hx hb dX3_contentOf_88 ?_
  refine va_iald (f := a 2) hx hb hK hP 1 0 rfl rfl (pk_andIn _ 3 (by decide) (by decide)) dX3_contentOf_89 ?_
  have hF : xContentOf f a p1 = (a 2) (p1 &&& (7 : Int32)).toNatClampNeg := by
    unfold xContentOf
    refine (if_neg c_1).trans ?_
    refine (if_neg c_2).trans ?_
    refine (if_neg c_3).trans ?_
    refine (if_neg c_4).trans ?_
    refine (if_neg c_6).trans ?_
    rfl
  rw [hF]
  exact KC.reti hx hb hr hlocks hK hP hD hS dX3_contentOf_90 rfl
def xTakeRequest (f : Nat → Int32) (a : Nat → Nat → Int32) (p1 : Int32) : Int32 × (Nat → Int32) × (Nat → Nat → Int32) :=
  (match xPush (upd (upd f 2 (0 : Int32)) 4 (0 : Int32)) a (f 1) with
  | (f_1, a_1) => ((11 : Int32), upd f_1 1 ((8 : Int32) * p1), a_1))
set_option maxHeartbeats 4000000 in
set_option maxRecDepth 100000 in
theorem kX3_takeRequest (l : Launch) (D : va_G) (cI : ClassId) (o : Nat → Nat) (f : Nat → Int32) (a : Nat → Nat → Int32) (p1 : Int32) : KC l yX3_takeRequest wsX3_takeRequest 3 [.ref (o 0), .int p1] D cI (wP cI o f a) (wP cI o ((xTakeRequest f a p1).2.1) ((xTakeRequest f a p1).2.2)) (some (.int (xTakeRequest f a p1).1)) := by
  refine KC.of (cc := cX3_takeRequest) (maxL := 2) (by decide) rfl (Nat.le_of_ble_eq_true rfl) ?_
  intro p e s m below meth c A hx hb hr hts hown hlocks hml hK hP hD hS hA ls hl
  have hl : lv_has ls 2 [(0, .ref (o 0)), (1, .int p1)] := hl
  have hown : s.vm.findClass RX3 = some m.cls := hown
  have hi3 : ∀ w ∈ u_ws RX3 TX3 9, w ∈ wsX3_takeRequest := fun w h => List.mem_cons_of_mem _ (List.mem_append_left _ (List.mem_append_right _ h))
  refine lv_aload_n hx hb dX3_takeRequest_0 rfl (lv_at hl 0 rfl) ?_
  refine lv_iconst (v := 0) hx hb dX3_takeRequest_1 (by decide) ?_
  refine pu_P_f2 (v := (0 : Int32)) hx hb hts hi3 hown hK hP hD hS (hts (.fieldLink RX3 31 "InvaderBoard$Processor" "enabled" "Z") (List.mem_cons_of_mem _ (List.mem_append_left _ (List.mem_append_left _ (List.mem_of_getElem? (i := 0) rfl))))) (by decide +kernel) (by decide +kernel) dX3_takeRequest_2 (fun H locs hP hD hS => ?_)
  refine lv_aload_n hx hb dX3_takeRequest_5 rfl (lv_at hl 0 rfl) ?_
  refine lv_iconst (v := 0) hx hb dX3_takeRequest_6 (by decide) ?_
  refine pu_P_f4 (v := (0 : Int32)) hx hb hts hi3 hown hK hP hD hS (hts (.fieldLink RX3 38 "InvaderBoard$Processor" "halted" "Z") (List.mem_cons_of_mem _ (List.mem_append_left _ (List.mem_append_left _ (List.mem_of_getElem? (i := 1) rfl))))) (by decide +kernel) (by decide +kernel) dX3_takeRequest_7 (fun H locs hP hD hS => ?_)
  refine lv_aload_n hx hb dX3_takeRequest_10 rfl (lv_at hl 0 rfl) ?_
  refine lv_aload_n hx hb dX3_takeRequest_11 rfl (lv_at hl 0 rfl) ?_
  refine va_get (ci := 3) (v := .int (f 1)) (C := RX3) (T := TX3) (N := 9) hx hb hts hi3 hown hK hP 0 rfl rfl 5 (by decide) (hts (.fieldLink RX3 28 "InvaderBoard$Processor" "pc" "I") (List.mem_cons_of_mem _ (List.mem_append_left _ (List.mem_append_left _ (List.mem_of_getElem? (i := 2) rfl))))) (fun _ h9 => h9) rfl dX3_takeRequest_12 ?_
  obtain ⟨f_1, a_1, hB_1⟩ := k_ex2 (xPush (upd (upd f 2 (0 : Int32)) 4 (0 : Int32)) a (f 1))
  have kc_1 := kX3_push l D cI o (upd (upd f 2 (0 : Int32)) 4 (0 : Int32)) a (f 1)
  rw [hB_1] at kc_1; dsimp only at kc_1
  refine KC.callv (ci := 3) (rest := []) (wt := wP cI o f_1 a_1) (kc_1) (cwV 1 hts gX3_takeRequest_X3_push rfl rfl rfl (by decide +kernel) ⟨Nat.le_of_ble_eq_true rfl, Nat.le_of_ble_eq_true rfl⟩) ⟨hx, hb, hml, hown, hts⟩ hK hP hD hS hA rfl rfl rfl [0, 1, 2, 3, 4, 5, 6, 7, 8] [] [0, 1, 2, 3, 4, 5, 6, 7, 8] (by decide) rfl (wr := []) rfl (by decide) (by decide) (by decide) rfl rfl hl.1 rfl (Nat.le_of_ble_eq_true rfl) dX3_takeRequest_15 ⟨Nat.zero_le _, Nat.zero_le _⟩ (fun H locs hP hD hS => ?_)
  refine lv_aload_n hx hb dX3_takeRequest_18 rfl (lv_at hl 0 rfl) ?_
  refine lv_bipush (v := 8) hx hb dX3_takeRequest_19 (by decide) ?_
  refine lv_iload_n hx hb dX3_takeRequest_21 rfl (lv_at hl 1 rfl) ?_
  refine lv_imul hx hb dX3_takeRequest_22 ?_
  refine pu_P_f1 (v := (8 : Int32) * p1) hx hb hts hi3 hown hK hP hD hS (hts (.fieldLink RX3 28 "InvaderBoard$Processor" "pc" "I") (List.mem_cons_of_mem _ (List.mem_append_left _ (List.mem_append_left _ (List.mem_of_getElem? (i := 2) rfl))))) dX3_takeRequest_23 (fun H locs hP hD hS => ?_)
  refine lv_bipush (v := 11) hx hb dX3_takeRequest_26 (by decide) ?_
  have hF : xTakeRequest f a p1 = ((11 : Int32), upd f_1 1 ((8 : Int32) * p1), a_1) := by
    unfold xTakeRequest
    rewrite [hB_1]
    rfl
  rw [hF]
  exact KC.reti hx hb hr hlocks hK hP hD hS dX3_takeRequest_28 rfl
def xExecuteMove (f : Nat → Int32) (a : Nat → Nat → Int32) (p1 : Int32) : (Nat → Int32) × (Nat → Nat → Int32) :=
  if p1 &&& (7 : Int32) = (6 : Int32) then if (p1 >>> ((3 : Int32) &&& 31)) &&& (7 : Int32) = (6 : Int32) then (upd f 4 (1 : Int32), a)
    else (f, xSetOperand f a ((p1 >>> ((3 : Int32) &&& 31)) &&& (7 : Int32)) (xOperand f a (p1 &&& (7 : Int32))))
  else (f, xSetOperand f a ((p1 >>> ((3 : Int32) &&& 31)) &&& (7 : Int32)) (xOperand f a (p1 &&& (7 : Int32))))
set_option maxHeartbeats 4000000 in
set_option maxRecDepth 100000 in
theorem kX3_executeMove (l : Launch) (D : va_G) (cI : ClassId) (o : Nat → Nat) (f : Nat → Int32) (a : Nat → Nat → Int32) (p1 : Int32) : KC l yX3_executeMove wsX3_executeMove 2 [.ref (o 0), .int p1] D cI (wP cI o f a) (wP cI o ((xExecuteMove f a p1).1) ((xExecuteMove f a p1).2)) none := by
  refine KC.of (cc := cX3_executeMove) (maxL := 4) (by decide) rfl (Nat.le_of_ble_eq_true rfl) ?_
  intro p e s m below meth c A hx hb hr hts hown hlocks hml hK hP hD hS hA ls hl
  have hl : lv_has ls 4 [(0, .ref (o 0)), (1, .int p1)] := hl
  have hown : s.vm.findClass RX3 = some m.cls := hown
  have hi3 : ∀ w ∈ u_ws RX3 TX3 9, w ∈ wsX3_executeMove := fun w h => List.mem_cons_of_mem _ (List.mem_append_left _ (List.mem_append_right _ h))
  refine lv_iload_n hx hb dX3_executeMove_0 rfl (lv_at hl 1 rfl) ?_
  refine lv_bipush (v := 7) hx hb dX3_executeMove_1 (by decide) ?_
  refine lv_iand hx hb dX3_executeMove_3 ?_
  refine lv_istore_n (lv' := [(2, .int _), (0, .ref _), (1, .int _)]) hx hb dX3_executeMove_4 rfl hl (by decide) rfl (fun ls hl => ?_)
  refine lv_iload_n hx hb dX3_executeMove_5 rfl (lv_at hl 2 rfl) ?_
  refine lv_iconst (v := 3) hx hb dX3_executeMove_6 (by decide) ?_
  refine lv_ishr hx hb dX3_executeMove_7 ?_
  refine lv_bipush (v := 7) hx hb dX3_executeMove_8 (by decide) ?_
  refine lv_iand hx hb dX3_executeMove_10 ?_
  refine lv_istore_n (lv' := [(3, .int _), (2, .int _), (0, .ref _), (1, .int _)]) hx hb dX3_executeMove_11 rfl hl (by decide) rfl (fun ls hl => ?_)
  refine lv_iload_n hx hb dX3_executeMove_12 rfl (lv_at hl 1 rfl) ?_
  refine lv_bipush (v := 6) hx hb dX3_executeMove_13 (by decide) ?_
  refine lv_icmp_ne (tgt := 32) hx hb dX3_executeMove_15 (by decide) (fun c_1 => ?_) (fun c_1 => ?_)
  · refine lv_aload_n hx hb dX3_executeMove_32 rfl (lv_at hl 2 rfl) ?_
    refine lv_iload_n hx hb dX3_executeMove_33 rfl (lv_at hl 0 rfl) ?_
    refine lv_aload_n hx hb dX3_executeMove_34 rfl (lv_at hl 2 rfl) ?_
    refine lv_iload_n hx hb dX3_executeMove_35 rfl (lv_at hl 1 rfl) ?_
    refine KC.calli (ci := 3) (rest := [.int ((p1 >>> ((3 : Int32) &&& 31)) &&& (7 : Int32)), .ref (o 0)]) (wt := wP cI o f a) (kX3_operand l D cI o f a (p1 &&& (7 : Int32))) (cwV 1 hts gX3_executeMove_X3_operand rfl rfl rfl (by decide +kernel) ⟨Nat.le_of_ble_eq_true rfl, Nat.le_of_ble_eq_true rfl⟩) ⟨hx, hb, hml, hown, hts⟩ hK hP hD hS hA rfl rfl rfl [0, 1, 2, 3, 4, 5, 6, 7, 8] [] [0, 1, 2, 3, 4, 5, 6, 7, 8] (by decide) rfl (wr := []) rfl (by decide) (by decide) (by decide) rfl rfl hl.1 rfl (Nat.le_of_ble_eq_true rfl) dX3_executeMove_36 ⟨Nat.zero_le _, Nat.zero_le _⟩ (fun H locs hP hD hS => ?_)
    refine KC.callv (ci := 3) (rest := []) (wt := wP cI o f (xSetOperand f a ((p1 >>> ((3 : Int32) &&& 31)) &&& (7 : Int32)) (xOperand f a (p1 &&& (7 : Int32))))) (kX3_setOperand l D cI o f a ((p1 >>> ((3 : Int32) &&& 31)) &&& (7 : Int32)) (xOperand f a (p1 &&& (7 : Int32)))) (cwV 2 hts gX3_executeMove_X3_setOperand rfl rfl rfl (by decide +kernel) ⟨Nat.le_of_ble_eq_true rfl, Nat.le_of_ble_eq_true rfl⟩) ⟨hx, hb, hml, hown, hts⟩ hK hP hD hS hA rfl rfl rfl [0, 1, 2, 3, 4, 5, 6, 7, 8] [] [0, 1, 2, 3, 4, 5, 6, 7, 8] (by decide) rfl (wr := []) rfl (by decide) (by decide) (by decide) rfl rfl hl.1 rfl (Nat.le_of_ble_eq_true rfl) dX3_executeMove_39 ⟨Nat.zero_le _, Nat.zero_le _⟩ (fun H locs hP hD hS => ?_)
    have hF : xExecuteMove f a p1 = (f, xSetOperand f a ((p1 >>> ((3 : Int32) &&& 31)) &&& (7 : Int32)) (xOperand f a (p1 &&& (7 : Int32)))) := by
      unfold xExecuteMove
      refine (if_neg c_1).trans ?_
      rfl
    rw [hF]
    exact KC.retv hx hb hr hlocks hK hP hD hS dX3_executeMove_42
  · refine lv_iload_n hx hb dX3_executeMove_18 rfl (lv_at hl 0 rfl) ?_
    refine lv_bipush (v := 6) hx hb dX3_executeMove_19 (by decide) ?_
    refine lv_icmp_ne (tgt := 32) hx hb dX3_executeMove_21 (by decide) (fun c_2 => ?_) (fun c_2 => ?_)
    · refine lv_aload_n hx hb dX3_executeMove_32 rfl (lv_at hl 2 rfl) ?_
      refine lv_iload_n hx hb dX3_executeMove_33 rfl (lv_at hl 0 rfl) ?_
      refine lv_aload_n hx hb dX3_executeMove_34 rfl (lv_at hl 2 rfl) ?_
      refine lv_iload_n hx hb dX3_executeMove_35 rfl (lv_at hl 1 rfl) ?_
      refine KC.calli (ci := 3) (rest := [.int ((p1 >>> ((3 : Int32) &&& 31)) &&& (7 : Int32)), .ref (o 0)]) (wt := wP cI o f a) (kX3_operand l D cI o f a (p1 &&& (7 : Int32))) (cwV 1 hts gX3_executeMove_X3_operand rfl rfl rfl (by decide +kernel) ⟨Nat.le_of_ble_eq_true rfl, Nat.le_of_ble_eq_true rfl⟩) ⟨hx, hb, hml, hown, hts⟩ hK hP hD hS hA rfl rfl rfl [0, 1, 2, 3, 4, 5, 6, 7, 8] [] [0, 1, 2, 3, 4, 5, 6, 7, 8] (by decide) rfl (wr := []) rfl (by decide) (by decide) (by decide) rfl rfl hl.1 rfl (Nat.le_of_ble_eq_true rfl) dX3_executeMove_36 ⟨Nat.zero_le _, Nat.zero_le _⟩ (fun H locs hP hD hS => ?_)
      refine KC.callv (ci := 3) (rest := []) (wt := wP cI o f (xSetOperand f a ((p1 >>> ((3 : Int32) &&& 31)) &&& (7 : Int32)) (xOperand f a (p1 &&& (7 : Int32))))) (kX3_setOperand l D cI o f a ((p1 >>> ((3 : Int32) &&& 31)) &&& (7 : Int32)) (xOperand f a (p1 &&& (7 : Int32)))) (cwV 2 hts gX3_executeMove_X3_setOperand rfl rfl rfl (by decide +kernel) ⟨Nat.le_of_ble_eq_true rfl, Nat.le_of_ble_eq_true rfl⟩) ⟨hx, hb, hml, hown, hts⟩ hK hP hD hS hA rfl rfl rfl [0, 1, 2, 3, 4, 5, 6, 7, 8] [] [0, 1, 2, 3, 4, 5, 6, 7, 8] (by decide) rfl (wr := []) rfl (by decide) (by decide) (by decide) rfl rfl hl.1 rfl (Nat.le_of_ble_eq_true rfl) dX3_executeMove_39 ⟨Nat.zero_le _, Nat.zero_le _⟩ (fun H locs hP hD hS => ?_)
      have hF : xExecuteMove f a p1 = (f, xSetOperand f a ((p1 >>> ((3 : Int32) &&& 31)) &&& (7 : Int32)) (xOperand f a (p1 &&& (7 : Int32)))) := by
        unfold xExecuteMove
        refine (if_pos c_1).trans ?_
        refine (if_neg c_2).trans ?_
        rfl
      rw [hF]
      exact KC.retv hx hb hr hlocks hK hP hD hS dX3_executeMove_42
    · refine lv_aload_n hx hb dX3_executeMove_24 rfl (lv_at hl 2 rfl) ?_
      refine lv_iconst (v := 1) hx hb dX3_executeMove_25 (by decide) ?_
      refine pu_P_f4 (v := (1 : Int32)) hx hb hts hi3 hown hK hP hD hS (hts (.fieldLink RX3 38 "InvaderBoard$Processor" "halted" "Z") (List.mem_cons_of_mem _ (List.mem_append_left _ (List.mem_append_left _ (List.mem_append_left _ (List.mem_of_getElem? (i := 0) rfl)))))) (by decide +kernel) (by decide +kernel) dX3_executeMove_26 (fun H locs hP hD hS => ?_)
      refine lv_goto (tgt := 42) hx hb dX3_executeMove_29 (by decide) ?_
      have hF : xExecuteMove f a p1 = (upd f 4 (1 : Int32), a) := by
        unfold xExecuteMove
        refine (if_pos c_1).trans ?_
        refine (if_pos c_2).trans ?_
        rfl
      rw [hF]
      exact KC.retv hx hb hr hlocks hK hP hD hS dX3_executeMove_42
