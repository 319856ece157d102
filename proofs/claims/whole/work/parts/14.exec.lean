def xExecuteSingle (f : Nat → Int32) (a : Nat → Nat → Int32) (p1 : Int32) : (Nat → Int32) × (Nat → Nat → Int32) :=
  if p1 = (2 : Int32) then (match xFetch f a with
    | (r_2, f_2) => (match xOut f_2 a r_2 ((a 2) (7 : Int32).toNatClampNeg) with
      | (f5_3, f6_3, f7_3, a5_3, a4_3) => (upd (upd (upd f_2 5 f5_3) 6 f6_3) 7 f7_3, ua (ua a 5 a5_3) 4 a4_3)))
  else if p1 = (3 : Int32) then (match xFetch f a with
      | (r_5, f_5) => (f_5, ua a 2 (upd (a 2) (7 : Int32).toNatClampNeg (xIn f_5 a r_5))))
    else if p1 = (4 : Int32) then (match xExchangeTop f a (xPairAt f a (4 : Int32)) with
        | (r_7, a_7) => (f, xSetPairAt f a_7 (4 : Int32) r_7))
      else if p1 = (5 : Int32) then (f, xExchangePairs f a)
        else if p1 = (6 : Int32) then (upd (upd f 2 (0 : Int32)) 3 (0 : Int32), a)
          else if p1 = (7 : Int32) then if f 2 = 0 then (upd f 3 (1 : Int32), a)
              else (upd f 3 (0 : Int32), a)
            else (match xFetchWord f a with
              | (r_12, f_12) => (upd f_12 1 r_12, a))
set_option maxHeartbeats 4000000 in
set_option maxRecDepth 100000 in
theorem kX3_executeSingle (l : Launch) (D : va_G) (cI : ClassId) (o : Nat → Nat) (f : Nat → Int32) (a : Nat → Nat → Int32) (p1 : Int32) : KC l yX3_executeSingle wsX3_executeSingle 3 [.ref (o 0), .int p1] D cI (wP cI o f a) (wP cI o ((xExecuteSingle f a p1).1) ((xExecuteSingle f a p1).2)) none := by
  refine KC.of (cc := cX3_executeSingle) (maxL := 2) (by decide) rfl (Nat.le_of_ble_eq_true rfl) ?_
  intro p e s m below meth c A hx hb hr hts hown hlocks hml hK hP hD hS hA ls hl
  have hl : lv_has ls 2 [(0, .ref (o 0)), (1, .int p1)] := hl
  have hown : s.vm.findClass RX3 = some m.cls := hown
  have hi3 : ∀ w ∈ u_ws RX3 TX3 9, w ∈ wsX3_executeSingle := fun w h => List.mem_cons_of_mem _ (List.mem_append_left _ (List.mem_append_left _ (List.mem_append_right _ h)))
  refine lv_iload_n hx hb dX3_executeSingle_0 rfl (lv_at hl 1 rfl) ?_
  by_cases c_1 : p1 = (2 : Int32)
  · refine k_tin (tgt := 40) hx hb (2 : Int32) c_1 dX3_executeSingle_1 (by decide) (by decide) rfl (by decide) ?_
    refine lv_aload_n hx hb dX3_executeSingle_40 rfl (lv_at hl 0 rfl) ?_
    refine va_get (ci := 3) (v := .ref (o 5)) (C := RX3) (T := TX3) (N := 9) hx hb hts hi3 hown hK hP 0 rfl rfl 1 (by decide) (hts (.fieldLink RX3 21 "InvaderBoard$Processor" "ports" "LInvaderBoard$Ports;") (List.mem_cons_of_mem _ (List.mem_append_left _ (List.mem_append_left _ (List.mem_append_left _ (List.mem_append_left _ (List.mem_of_getElem? (i := 0) rfl))))))) (fun _ h9 => h9) rfl dX3_executeSingle_41 ?_
    refine lv_aload_n hx hb dX3_executeSingle_44 rfl (lv_at hl 0 rfl) ?_
    obtain ⟨r_2, f_2, hB_2⟩ := k_ex2 (xFetch f a)
    have kc_2 := kX3_fetch l D cI o f a
    rw [hB_2] at kc_2; dsimp only at kc_2
    refine KC.calli (ci := 3) (rest := [.ref (o 5)]) (wt := wP cI o f_2 a) (kc_2) (cwV 0 hts gX3_executeSingle_X3_fetch rfl rfl rfl (by decide +kernel) ⟨Nat.le_of_ble_eq_true rfl, Nat.le_of_ble_eq_true rfl⟩) ⟨hx, hb, hml, hown, hts⟩ hK hP hD hS hA rfl rfl rfl [0, 1, 2, 3, 4, 5, 6, 7, 8] [] [0, 1, 2, 3, 4, 5, 6, 7, 8] (by decide) rfl (wr := []) rfl (by decide) (by decide) (by decide) rfl rfl hl.1 rfl (Nat.le_of_ble_eq_true rfl) dX3_executeSingle_45 ⟨Nat.zero_le _, Nat.zero_le _⟩ (fun H locs hP hD hS => ?_)
    refine lv_aload_n hx hb dX3_executeSingle_48 rfl (lv_at hl 0 rfl) ?_
    refine va_get (ci := 3) (v := .ref (o 1)) (C := RX3) (T := TX3) (N := 9) hx hb hts hi3 hown hK hP 0 rfl rfl 2 (by decide) (hts (.fieldLink RX3 9 "InvaderBoard$Processor" "registers" "[I") (List.mem_cons_of_mem _ (List.mem_append_left _ (List.mem_append_left _ (List.mem_append_left _ (List.mem_append_left _ (List.mem_of_getElem? (i := 1) rfl))))))) (fun _ h9 => h9) rfl dX3_executeSingle_49 ?_
    refine lv_bipush (v := 7) hx hb dX3_executeSingle_52 (by decide) ?_
    refine va_iald (f := a 2) hx hb hK hP 1 0 rfl rfl (by unfold vp_in; decide) dX3_executeSingle_54 ?_
    obtain ⟨f5_3, f6_3, f7_3, a5_3, a4_3, hB_3⟩ := k_ex5 (xOut f_2 a r_2 ((a 2) (7 : Int32).toNatClampNeg))
    have kc_3 := kX2_out l D cI o f_2 a r_2 ((a 2) (7 : Int32).toNatClampNeg)
    rw [hB_3] at kc_3; dsimp only at kc_3
    refine KC.callv (ci := 2) (rest := []) (wt := wP cI o (upd (upd (upd f_2 5 f5_3) 6 f6_3) 7 f7_3) (ua (ua a 5 a5_3) 4 a4_3)) (kc_3) (cwV 2 hts gX3_executeSingle_X2_out rfl rfl rfl (by decide +kernel) ⟨Nat.le_of_ble_eq_true rfl, Nat.le_of_ble_eq_true rfl⟩) ⟨hx, hb, hml, hown, hts⟩ hK hP hD hS hA rfl rfl rfl [5, 6, 7, 8] [0, 1, 2, 3, 4] [0, 1, 2, 3, 4, 5, 6, 7, 8] (by decide) rfl (wr := [_, _, _, _, _]) rfl (by decide) (by decide) (by decide) rfl rfl hl.1 rfl (Nat.le_of_ble_eq_true rfl) dX3_executeSingle_55 ⟨Nat.zero_le _, Nat.zero_le _⟩ (fun H locs hP hD hS => ?_)
    refine lv_goto (tgt := 146) hx hb dX3_executeSingle_58 (by decide) ?_
    have hF : xExecuteSingle f a p1 = (upd (upd (upd f_2 5 f5_3) 6 f6_3) 7 f7_3, ua (ua a 5 a5_3) 4 a4_3) := by
      unfold xExecuteSingle
      refine (if_pos c_1).trans ?_
      rewrite [hB_2]
      dsimp only
      rewrite [hB_3]
      rfl
    rw [hF]
    exact KC.retv hx hb hr hlocks hK hP hD hS dX3_executeSingle_146
  by_cases c_4 : p1 = (3 : Int32)
  · refine k_tin (tgt := 61) hx hb (3 : Int32) c_4 dX3_executeSingle_1 (by decide) (by decide) rfl (by decide) ?_
    refine lv_aload_n hx hb dX3_executeSingle_61 rfl (lv_at hl 0 rfl) ?_
    refine va_get (ci := 3) (v := .ref (o 1)) (C := RX3) (T := TX3) (N := 9) hx hb hts hi3 hown hK hP 0 rfl rfl 2 (by decide) (hts (.fieldLink RX3 9 "InvaderBoard$Processor" "registers" "[I") (List.mem_cons_of_mem _ (List.mem_append_left _ (List.mem_append_left _ (List.mem_append_left _ (List.mem_append_left _ (List.mem_of_getElem? (i := 1) rfl))))))) (fun _ h9 => h9) rfl dX3_executeSingle_62 ?_
    refine lv_bipush (v := 7) hx hb dX3_executeSingle_65 (by decide) ?_
    refine lv_aload_n hx hb dX3_executeSingle_67 rfl (lv_at hl 0 rfl) ?_
    refine va_get (ci := 3) (v := .ref (o 5)) (C := RX3) (T := TX3) (N := 9) hx hb hts hi3 hown hK hP 0 rfl rfl 1 (by decide) (hts (.fieldLink RX3 21 "InvaderBoard$Processor" "ports" "LInvaderBoard$Ports;") (List.mem_cons_of_mem _ (List.mem_append_left _ (List.mem_append_left _ (List.mem_append_left _ (List.mem_append_left _ (List.mem_of_getElem? (i := 0) rfl))))))) (fun _ h9 => h9) rfl dX3_executeSingle_68 ?_
    refine lv_aload_n hx hb dX3_executeSingle_71 rfl (lv_at hl 0 rfl) ?_
    obtain ⟨r_5, f_5, hB_5⟩ := k_ex2 (xFetch f a)
    have kc_5 := kX3_fetch l D cI o f a
    rw [hB_5] at kc_5; dsimp only at kc_5
    refine KC.calli (ci := 3) (rest := [.ref (o 5), .int (7 : Int32), .ref (o 1)]) (wt := wP cI o f_5 a) (kc_5) (cwV 0 hts gX3_executeSingle_X3_fetch rfl rfl rfl (by decide +kernel) ⟨Nat.le_of_ble_eq_true rfl, Nat.le_of_ble_eq_true rfl⟩) ⟨hx, hb, hml, hown, hts⟩ hK hP hD hS hA rfl rfl rfl [0, 1, 2, 3, 4, 5, 6, 7, 8] [] [0, 1, 2, 3, 4, 5, 6, 7, 8] (by decide) rfl (wr := []) rfl (by decide) (by decide) (by decide) rfl rfl hl.1 rfl (Nat.le_of_ble_eq_true rfl) dX3_executeSingle_72 ⟨Nat.zero_le _, Nat.zero_le _⟩ (fun H locs hP hD hS => ?_)
    refine KC.calli (ci := 2) (rest := [.int (7 : Int32), .ref (o 1)]) (wt := wP cI o f_5 a) (kX2_in l D cI o f_5 a r_5) (cwV 1 hts gX3_executeSingle_X2_in rfl rfl rfl (by decide +kernel) ⟨Nat.le_of_ble_eq_true rfl, Nat.le_of_ble_eq_true rfl⟩) ⟨hx, hb, hml, hown, hts⟩ hK hP hD hS hA rfl rfl rfl [5, 6, 7, 8] [0, 1, 2, 3, 4] [0, 1, 2, 3, 4, 5, 6, 7, 8] (by decide) rfl (wr := [_, _, _, _, _]) rfl (by decide) (by decide) (by decide) rfl rfl hl.1 rfl (Nat.le_of_ble_eq_true rfl) dX3_executeSingle_75 ⟨Nat.zero_le _, Nat.zero_le _⟩ (fun H locs hP hD hS => ?_)
    refine pu_P_a2 hx hb hK hP hD hS (by unfold vp_in; decide) dX3_executeSingle_78 (fun H locs hP hD hS => ?_)
    refine lv_goto (tgt := 146) hx hb dX3_executeSingle_79 (by decide) ?_
    have hF : xExecuteSingle f a p1 = (f_5, ua a 2 (upd (a 2) (7 : Int32).toNatClampNeg (xIn f_5 a r_5))) := by
      unfold xExecuteSingle
      refine (if_neg c_1).trans ?_
      refine (if_pos c_4).trans ?_
      rewrite [hB_5]
      rfl
    rw [hF]
    exact KC.retv hx hb hr hlocks hK hP hD hS dX3_executeSingle_146
  by_cases c_6 : p1 = (4 : Int32)
  · refine k_tin (tgt := 82) hx hb (4 : Int32) c_6 dX3_executeSingle_1 (by decide) (by decide) rfl (by decide) ?_
    refine lv_aload_n hx hb dX3_executeSingle_82 rfl (lv_at hl 0 rfl) ?_
    refine lv_iconst (v := 4) hx hb dX3_executeSingle_83 (by decide) ?_
    refine lv_aload_n hx hb dX3_executeSingle_84 rfl (lv_at hl 0 rfl) ?_
    refine lv_aload_n hx hb dX3_executeSingle_85 rfl (lv_at hl 0 rfl) ?_
    refine lv_iconst (v := 4) hx hb dX3_executeSingle_86 (by decide) ?_
    refine KC.calli (ci := 3) (rest := [.ref (o 0), .int (4 : Int32), .ref (o 0)]) (wt := wP cI o f a) (kX3_pairAt l D cI o f a (4 : Int32)) (cwV 1 hts gX3_executeSingle_X3_pairAt rfl rfl rfl (by decide +kernel) ⟨Nat.le_of_ble_eq_true rfl, Nat.le_of_ble_eq_true rfl⟩) ⟨hx, hb, hml, hown, hts⟩ hK hP hD hS hA rfl rfl rfl [0, 1, 2, 3, 4, 5, 6, 7, 8] [] [0, 1, 2, 3, 4, 5, 6, 7, 8] (by decide) rfl (wr := []) rfl (by decide) (by decide) (by decide) rfl rfl hl.1 rfl (Nat.le_of_ble_eq_true rfl) dX3_executeSingle_87 ⟨Nat.zero_le _, Nat.zero_le _⟩ (fun H locs hP hD hS => ?_)
    obtain ⟨r_7, a_7, hB_7⟩ := k_ex2 (xExchangeTop f a (xPairAt f a (4 : Int32)))
    have kc_7 := kX3_exchangeTop l D cI o f a (xPairAt f a (4 : Int32))
    rw [hB_7] at kc_7; dsimp only at kc_7
    refine KC.calli (ci := 3) (rest := [.int (4 : Int32), .ref (o 0)]) (wt := wP cI o f a_7) (kc_7) (cwV 1 hts gX3_executeSingle_X3_exchangeTop rfl rfl rfl (by decide +kernel) ⟨Nat.le_of_ble_eq_true rfl, Nat.le_of_ble_eq_true rfl⟩) ⟨hx, hb, hml, hown, hts⟩ hK hP hD hS hA rfl rfl rfl [0, 1, 2, 3, 4, 5, 6, 7, 8] [] [0, 1, 2, 3, 4, 5, 6, 7, 8] (by decide) rfl (wr := []) rfl (by decide) (by decide) (by decide) rfl rfl hl.1 rfl (Nat.le_of_ble_eq_true rfl) dX3_executeSingle_90 ⟨Nat.zero_le _, Nat.zero_le _⟩ (fun H locs hP hD hS => ?_)
    refine KC.callv (ci := 3) (rest := []) (wt := wP cI o f (xSetPairAt f a_7 (4 : Int32) r_7)) (kX3_setPairAt l D cI o f a_7 (4 : Int32) r_7) (cwV 2 hts gX3_executeSingle_X3_setPairAt rfl rfl rfl (by decide +kernel) ⟨Nat.le_of_ble_eq_true rfl, Nat.le_of_ble_eq_true rfl⟩) ⟨hx, hb, hml, hown, hts⟩ hK hP hD hS hA rfl rfl rfl [0, 1, 2, 3, 4, 5, 6, 7, 8] [] [0, 1, 2, 3, 4, 5, 6, 7, 8] (by decide) rfl (wr := []) rfl (by decide) (by decide) (by decide) rfl rfl hl.1 rfl (Nat.le_of_ble_eq_true rfl) dX3_executeSingle_93 ⟨Nat.zero_le _, Nat.zero_le _⟩ (fun H locs hP hD hS => ?_)
    refine lv_goto (tgt := 146) hx hb dX3_executeSingle_96 (by decide) ?_
    have hF : xExecuteSingle f a p1 = (f, xSetPairAt f a_7 (4 : Int32) r_7) := by
      unfold xExecuteSingle
      refine (if_neg c_1).trans ?_
      refine (if_neg c_4).trans ?_
      refine (if_pos c_6).trans ?_
      rewrite [hB_7]
      rfl
    rw [hF]
    exact KC.retv hx hb hr hlocks hK hP hD hS dX3_executeSingle_146
  by_cases c_8 : p1 = (5 : Int32)
  · refine k_tin (tgt := 99) hx hb (5 : Int32) c_8 dX3_executeSingle_1 (by decide) (by decide) rfl (by decide) ?_
    refine lv_aload_n hx hb dX3_executeSingle_99 rfl (lv_at hl 0 rfl) ?_
    refine KC.callv (ci := 3) (rest := []) (wt := wP cI o f (xExchangePairs f a)) (kX3_exchangePairs l D cI o f a) (cwV 0 hts gX3_executeSingle_X3_exchangePairs rfl rfl rfl (by decide +kernel) ⟨Nat.le_of_ble_eq_true rfl, Nat.le_of_ble_eq_true rfl⟩) ⟨hx, hb, hml, hown, hts⟩ hK hP hD hS hA rfl rfl rfl [0, 1, 2, 3, 4, 5, 6, 7, 8] [] [0, 1, 2, 3, 4, 5, 6, 7, 8] (by decide) rfl (wr := []) rfl (by decide) (by decide) (by decide) rfl rfl hl.1 rfl (Nat.le_of_ble_eq_true rfl) dX3_executeSingle_100 ⟨Nat.zero_le _, Nat.zero_le _⟩ (fun H locs hP hD hS => ?_)
    refine lv_goto (tgt := 146) hx hb dX3_executeSingle_103 (by decide) ?_
    have hF : xExecuteSingle f a p1 = (f, xExchangePairs f a) := by
      unfold xExecuteSingle
      refine (if_neg c_1).trans ?_
      refine (if_neg c_4).trans ?_
      refine (if_neg c_6).trans ?_
      refine (if_pos c_8).trans ?_
      rfl
    rw [hF]
    exact KC.retv hx hb hr hlocks hK hP hD hS dX3_executeSingle_146
  by_cases c_9 : p1 = (6 : Int32)
  · refine k_tin (tgt := 106) hx hb (6 : Int32) c_9 dX3_executeSingle_1 (by decide) (by decide) rfl (by decide) ?_
    refine lv_aload_n hx hb dX3_executeSingle_106 rfl (lv_at hl 0 rfl) ?_
    refine lv_iconst (v := 0) hx hb dX3_executeSingle_107 (by decide) ?_
    refine pu_P_f2 (v := (0 : Int32)) hx hb hts hi3 hown hK hP hD hS (hts (.fieldLink RX3 31 "InvaderBoard$Processor" "enabled" "Z") (List.mem_cons_of_mem _ (List.mem_append_left _ (List.mem_append_left _ (List.mem_append_left _ (List.mem_append_left _ (List.mem_of_getElem? (i := 2) rfl))))))) (by decide +kernel) (by decide +kernel) dX3_executeSingle_108 (fun H locs hP hD hS => ?_)
    refine lv_aload_n hx hb dX3_executeSingle_111 rfl (lv_at hl 0 rfl) ?_
    refine lv_iconst (v := 0) hx hb dX3_executeSingle_112 (by decide) ?_
    refine pu_P_f3 (v := (0 : Int32)) hx hb hts hi3 hown hK hP hD hS (hts (.fieldLink RX3 35 "InvaderBoard$Processor" "enabling" "Z") (List.mem_cons_of_mem _ (List.mem_append_left _ (List.mem_append_left _ (List.mem_append_left _ (List.mem_append_left _ (List.mem_of_getElem? (i := 3) rfl))))))) (by decide +kernel) (by decide +kernel) dX3_executeSingle_113 (fun H locs hP hD hS => ?_)
    refine lv_goto (tgt := 146) hx hb dX3_executeSingle_116 (by decide) ?_
    have hF : xExecuteSingle f a p1 = (upd (upd f 2 (0 : Int32)) 3 (0 : Int32), a) := by
      unfold xExecuteSingle
      refine (if_neg c_1).trans ?_
      refine (if_neg c_4).trans ?_
      refine (if_neg c_6).trans ?_
      refine (if_neg c_8).trans ?_
      refine (if_pos c_9).trans ?_
      rfl
    rw [hF]
    exact KC.retv hx hb hr hlocks hK hP hD hS dX3_executeSingle_146
  by_cases c_10 : p1 = (7 : Int32)
  · refine k_tin (tgt := 119) hx hb (7 : Int32) c_10 dX3_executeSingle_1 (by decide) (by decide) rfl (by decide) ?_
    refine lv_aload_n hx hb dX3_executeSingle_119 rfl (lv_at hl 0 rfl) ?_
    refine lv_aload_n hx hb dX3_executeSingle_120 rfl (lv_at hl 0 rfl) ?_
    refine va_get (ci := 3) (v := .int (f 2)) (C := RX3) (T := TX3) (N := 9) hx hb hts hi3 hown hK hP 0 rfl rfl 6 (by decide) (hts (.fieldLink RX3 31 "InvaderBoard$Processor" "enabled" "Z") (List.mem_cons_of_mem _ (List.mem_append_left _ (List.mem_append_left _ (List.mem_append_left _ (List.mem_append_left _ (List.mem_of_getElem? (i := 2) rfl))))))) (fun _ h9 => h9) rfl dX3_executeSingle_121 ?_
    refine lv_if_ne (tgt := 131) hx hb dX3_executeSingle_124 (by decide) (fun c_11 => ?_) (fun c_11 => ?_)
    · refine lv_iconst (v := 0) hx hb dX3_executeSingle_131 (by decide) ?_
      refine pu_P_f3 (v := (0 : Int32)) hx hb hts hi3 hown hK hP hD hS (hts (.fieldLink RX3 35 "InvaderBoard$Processor" "enabling" "Z") (List.mem_cons_of_mem _ (List.mem_append_left _ (List.mem_append_left _ (List.mem_append_left _ (List.mem_append_left _ (List.mem_of_getElem? (i := 3) rfl))))))) (by decide +kernel) (by decide +kernel) dX3_executeSingle_132 (fun H locs hP hD hS => ?_)
      refine lv_goto (tgt := 146) hx hb dX3_executeSingle_135 (by decide) ?_
      have hF : xExecuteSingle f a p1 = (upd f 3 (0 : Int32), a) := by
        unfold xExecuteSingle
        refine (if_neg c_1).trans ?_
        refine (if_neg c_4).trans ?_
        refine (if_neg c_6).trans ?_
        refine (if_neg c_8).trans ?_
        refine (if_neg c_9).trans ?_
        refine (if_pos c_10).trans ?_
        refine (if_neg c_11).trans ?_
        rfl
      rw [hF]
      exact KC.retv hx hb hr hlocks hK hP hD hS dX3_executeSingle_146
    · refine lv_iconst (v := 1) hx hb dX3_executeSingle_127 (by decide) ?_
      refine lv_goto (tgt := 132) hx hb dX3_executeSingle_128 (by decide) ?_
      refine pu_P_f3 (v := (1 : Int32)) hx hb hts hi3 hown hK hP hD hS (hts (.fieldLink RX3 35 "InvaderBoard$Processor" "enabling" "Z") (List.mem_cons_of_mem _ (List.mem_append_left _ (List.mem_append_left _ (List.mem_append_left _ (List.mem_append_left _ (List.mem_of_getElem? (i := 3) rfl))))))) (by decide +kernel) (by decide +kernel) dX3_executeSingle_132 (fun H locs hP hD hS => ?_)
      refine lv_goto (tgt := 146) hx hb dX3_executeSingle_135 (by decide) ?_
      have hF : xExecuteSingle f a p1 = (upd f 3 (1 : Int32), a) := by
        unfold xExecuteSingle
        refine (if_neg c_1).trans ?_
        refine (if_neg c_4).trans ?_
        refine (if_neg c_6).trans ?_
        refine (if_neg c_8).trans ?_
        refine (if_neg c_9).trans ?_
        refine (if_pos c_10).trans ?_
        refine (if_pos c_11).trans ?_
        rfl
      rw [hF]
      exact KC.retv hx hb hr hlocks hK hP hD hS dX3_executeSingle_146
  refine lv_tableOut (tgt := 138) hx hb dX3_executeSingle_1 (by have := lv_neT c_1 (k := (2 : Int32)) (a := 2) (by decide); have := lv_neT c_4 (k := (3 : Int32)) (a := 3) (by decide); have := lv_neT c_6 (k := (4 : Int32)) (a := 4) (by decide); have := lv_neT c_8 (k := (5 : Int32)) (a := 5) (by decide); have := lv_neT c_9 (k := (6 : Int32)) (a := 6) (by decide); have := lv_neT c_10 (k := (7 : Int32)) (a := 7) (by decide); omega) (by decide) ?_
  refine lv_aload_n hx hb dX3_executeSingle_138 rfl (lv_at hl 0 rfl) ?_
  refine lv_aload_n hx hb dX3_executeSingle_139 rfl (lv_at hl 0 rfl) ?_
  obtain ⟨r_12, f_12, hB_12⟩ := k_ex2 (xFetchWord f a)
  have kc_12 := kX3_fetchWord l D cI o f a
  rw [hB_12] at kc_12; dsimp only at kc_12
  refine KC.calli (ci := 3) (rest := [.ref (o 0)]) (wt := wP cI o f_12 a) (kc_12) (cwV 0 hts gX3_executeSingle_X3_fetchWord rfl rfl rfl (by decide +kernel) ⟨Nat.le_of_ble_eq_true rfl, Nat.le_of_ble_eq_true rfl⟩) ⟨hx, hb, hml, hown, hts⟩ hK hP hD hS hA rfl rfl rfl [0, 1, 2, 3, 4, 5, 6, 7, 8] [] [0, 1, 2, 3, 4, 5, 6, 7, 8] (by decide) rfl (wr := []) rfl (by decide) (by decide) (by decide) rfl rfl hl.1 rfl (Nat.le_of_ble_eq_true rfl) dX3_executeSingle_140 ⟨Nat.zero_le _, Nat.zero_le _⟩ (fun H locs hP hD hS => ?_)
  refine pu_P_f1 (v := r_12) hx hb hts hi3 hown hK hP hD hS (hts (.fieldLink RX3 28 "InvaderBoard$Processor" "pc" "I") (List.mem_cons_of_mem _ (List.mem_append_left _ (List.mem_append_left _ (List.mem_append_left _ (List.mem_append_left _ (List.mem_of_getElem? (i := 4) rfl))))))) dX3_executeSingle_143 (fun H locs hP hD hS => ?_)
  have hF : xExecuteSingle f a p1 = (upd f_12 1 r_12, a) := by
    unfold xExecuteSingle
    refine (if_neg c_1).trans ?_
    refine (if_neg c_4).trans ?_
    refine (if_neg c_6).trans ?_
    refine (if_neg c_8).trans ?_
    refine (if_neg c_9).trans ?_
    refine (if_neg c_10).trans ?_
    rewrite [hB_12]
    rfl
  rw [hF]
  exact KC.retv hx hb hr hlocks hK hP hD hS dX3_executeSingle_146
def xExecuteLow (f : Nat → Int32) (a : Nat → Nat → Int32) (p1 : Int32) : (Nat → Int32) × (Nat → Nat → Int32) :=
  if p1 &&& (8 : Int32) = 0 then if p1 &&& (7 : Int32) = (1 : Int32) then (match xFetchWord f a with
      | (r_4, f_4) => (match xSetPairOrSp f_4 a ((p1 >>> ((4 : Int32) &&& 31)) &&& (3 : Int32)) r_4 with
        | (f_5, a_5) => (f_5, a_5)))
    else if p1 &&& (7 : Int32) = (2 : Int32) then (match xLoadOrStore f a ((p1 >>> ((3 : Int32) &&& 31)) &&& (7 : Int32)) with
        | (f_7, a_7) => (f_7, a_7))
      else if p1 &&& (7 : Int32) = (3 : Int32) then (match xSetPairOrSp f a ((p1 >>> ((4 : Int32) &&& 31)) &&& (3 : Int32)) ((xPairOrSp f a ((p1 >>> ((4 : Int32) &&& 31)) &&& (3 : Int32))) + (1 : Int32)) with
          | (f_10, a_10) => (f_10, a_10))
        else if p1 &&& (7 : Int32) = (4 : Int32) then (match xIncrement f a (xOperand f a ((p1 >>> ((3 : Int32) &&& 31)) &&& (7 : Int32))) with
            | (r_12, f_12) => (f_12, xSetOperand f_12 a ((p1 >>> ((3 : Int32) &&& 31)) &&& (7 : Int32)) r_12))
          else if p1 &&& (7 : Int32) = (5 : Int32) then (match xDecrement f a (xOperand f a ((p1 >>> ((3 : Int32) &&& 31)) &&& (7 : Int32))) with
              | (r_14, f_14) => (f_14, xSetOperand f_14 a ((p1 >>> ((3 : Int32) &&& 31)) &&& (7 : Int32)) r_14))
            else if p1 &&& (7 : Int32) = (6 : Int32) then (match xFetch f a with
                | (r_16, f_16) => (f_16, xSetOperand f_16 a ((p1 >>> ((3 : Int32) &&& 31)) &&& (7 : Int32)) r_16))
              else if p1 &&& (7 : Int32) = (7 : Int32) then (match xChangeAcc f a ((p1 >>> ((3 : Int32) &&& 31)) &&& (7 : Int32)) with
                  | (f_18, a_18) => (f_18, a_18))
                else (f, a)
  else if p1 &&& (7 : Int32) = (1 : Int32) then (match xAddToHl f a (xPairOrSp f a ((p1 >>> ((4 : Int32) &&& 31)) &&& (3 : Int32))) with
      | (f_21, a_21) => (f_21, a_21))
    else if p1 &&& (7 : Int32) = (2 : Int32) then (match xLoadOrStore f a ((p1 >>> ((3 : Int32) &&& 31)) &&& (7 : Int32)) with
        | (f_23, a_23) => (f_23, a_23))
      else if p1 &&& (7 : Int32) = (3 : Int32) then (match xSetPairOrSp f a ((p1 >>> ((4 : Int32) &&& 31)) &&& (3 : Int32)) ((xPairOrSp f a ((p1 >>> ((4 : Int32) &&& 31)) &&& (3 : Int32))) + (-1 : Int32)) with
          | (f_26, a_26) => (f_26, a_26))
        else if p1 &&& (7 : Int32) = (4 : Int32) then (match xIncrement f a (xOperand f a ((p1 >>> ((3 : Int32) &&& 31)) &&& (7 : Int32))) with
            | (r_28, f_28) => (f_28, xSetOperand f_28 a ((p1 >>> ((3 : Int32) &&& 31)) &&& (7 : Int32)) r_28))
          else if p1 &&& (7 : Int32) = (5 : Int32) then (match xDecrement f a (xOperand f a ((p1 >>> ((3 : Int32) &&& 31)) &&& (7 : Int32))) with
              | (r_30, f_30) => (f_30, xSetOperand f_30 a ((p1 >>> ((3 : Int32) &&& 31)) &&& (7 : Int32)) r_30))
            else if p1 &&& (7 : Int32) = (6 : Int32) then (match xFetch f a with
                | (r_32, f_32) => (f_32, xSetOperand f_32 a ((p1 >>> ((3 : Int32) &&& 31)) &&& (7 : Int32)) r_32))
              else if p1 &&& (7 : Int32) = (7 : Int32) then (match xChangeAcc f a ((p1 >>> ((3 : Int32) &&& 31)) &&& (7 : Int32)) with
                  | (f_34, a_34) => (f_34, a_34))
                else (f, a)
set_option maxHeartbeats 4000000 in
set_option maxRecDepth 100000 in
theorem kX3_executeLow (l : Launch) (D : va_G) (cI : ClassId) (o : Nat → Nat) (f : Nat → Int32) (a : Nat → Nat → Int32) (p1 : Int32) : KC l yX3_executeLow wsX3_executeLow 4 [.ref (o 0), .int p1] D cI (wP cI o f a) (wP cI o ((xExecuteLow f a p1).1) ((xExecuteLow f a p1).2)) none := by
  refine KC.of (cc := cX3_executeLow) (maxL := 5) (by decide) rfl (Nat.le_of_ble_eq_true rfl) ?_
  intro p e s m below meth c A hx hb hr hts hown hlocks hml hK hP hD hS hA ls hl
  have hl : lv_has ls 5 [(0, .ref (o 0)), (1, .int p1)] := hl
  have hown : s.vm.findClass RX3 = some m.cls := hown
  refine lv_iload_n hx hb dX3_executeLow_0 rfl (lv_at hl 1 rfl) ?_
  refine lv_iconst (v := 4) hx hb dX3_executeLow_1 (by decide) ?_
  refine lv_ishr hx hb dX3_executeLow_2 ?_
  refine lv_iconst (v := 3) hx hb dX3_executeLow_3 (by decide) ?_
  refine lv_iand hx hb dX3_executeLow_4 ?_
  refine lv_istore_n (lv' := [(2, .int _), (0, .ref _), (1, .int _)]) hx hb dX3_executeLow_5 rfl hl (by decide) rfl (fun ls hl => ?_)
  refine lv_iload_n hx hb dX3_executeLow_6 rfl (lv_at hl 2 rfl) ?_
  refine lv_iconst (v := 3) hx hb dX3_executeLow_7 (by decide) ?_
  refine lv_ishr hx hb dX3_executeLow_8 ?_
  refine lv_bipush (v := 7) hx hb dX3_executeLow_9 (by decide) ?_
  refine lv_iand hx hb dX3_executeLow_11 ?_
  refine lv_istore_n (lv' := [(3, .int _), (2, .int _), (0, .ref _), (1, .int _)]) hx hb dX3_executeLow_12 rfl hl (by decide) rfl (fun ls hl => ?_)
  refine lv_iload_n hx hb dX3_executeLow_13 rfl (lv_at hl 3 rfl) ?_
  refine lv_bipush (v := 8) hx hb dX3_executeLow_14 (by decide) ?_
  refine lv_iand hx hb dX3_executeLow_16 ?_
  refine lv_if_eq (tgt := 24) hx hb dX3_executeLow_17 (by decide) (fun c_1 => ?_) (fun c_1 => ?_)
  · refine lv_iconst (v := 0) hx hb dX3_executeLow_24 (by decide) ?_
    refine lv_istore (lv' := [(4, .int _), (3, .int _), (2, .int _), (0, .ref _), (1, .int _)]) hx hb dX3_executeLow_25 hl (by decide) rfl (fun ls hl => ?_)
    refine lv_iload_n hx hb dX3_executeLow_27 rfl (lv_at hl 4 rfl) ?_
    refine lv_bipush (v := 7) hx hb dX3_executeLow_28 (by decide) ?_
    refine lv_iand hx hb dX3_executeLow_30 ?_
    by_cases c_2 : p1 &&& (7 : Int32) = (1 : Int32)
    · refine k_tin (tgt := 72) hx hb (1 : Int32) c_2 dX3_executeLow_31 (by decide) (by decide) rfl (by decide) ?_
      refine lv_iload hx hb dX3_executeLow_72 (lv_at hl 0 rfl) ?_
      refine lv_if_eq (tgt := 89) hx hb dX3_executeLow_74 (by decide) (fun c_3 => ?_) (fun c_3 => ?_)
      · refine lv_aload_n hx hb dX3_executeLow_89 rfl (lv_at hl 3 rfl) ?_
        refine lv_iload_n hx hb dX3_executeLow_90 rfl (lv_at hl 2 rfl) ?_
        refine lv_aload_n hx hb dX3_executeLow_91 rfl (lv_at hl 3 rfl) ?_
        obtain ⟨r_4, f_4, hB_4⟩ := k_ex2 (xFetchWord f a)
        have kc_4 := kX3_fetchWord l D cI o f a
        rw [hB_4] at kc_4; dsimp only at kc_4
        refine KC.calli (ci := 3) (rest := [.int ((p1 >>> ((4 : Int32) &&& 31)) &&& (3 : Int32)), .ref (o 0)]) (wt := wP cI o f_4 a) (kc_4) (cwV 0 hts gX3_executeLow_X3_fetchWord rfl rfl rfl (by decide +kernel) ⟨Nat.le_of_ble_eq_true rfl, Nat.le_of_ble_eq_true rfl⟩) ⟨hx, hb, hml, hown, hts⟩ hK hP hD hS hA rfl rfl rfl [0, 1, 2, 3, 4, 5, 6, 7, 8] [] [0, 1, 2, 3, 4, 5, 6, 7, 8] (by decide) rfl (wr := []) rfl (by decide) (by decide) (by decide) rfl rfl hl.1 rfl (Nat.le_of_ble_eq_true rfl) dX3_executeLow_92 ⟨Nat.zero_le _, Nat.zero_le _⟩ (fun H locs hP hD hS => ?_)
        obtain ⟨f_5, a_5, hB_5⟩ := k_ex2 (xSetPairOrSp f_4 a ((p1 >>> ((4 : Int32) &&& 31)) &&& (3 : Int32)) r_4)
        have kc_5 := kX3_setPairOrSp l D cI o f_4 a ((p1 >>> ((4 : Int32) &&& 31)) &&& (3 : Int32)) r_4
        rw [hB_5] at kc_5; dsimp only at kc_5
        refine KC.callv (ci := 3) (rest := []) (wt := wP cI o f_5 a_5) (kc_5) (cwV 2 hts gX3_executeLow_X3_setPairOrSp rfl rfl rfl (by decide +kernel) ⟨Nat.le_of_ble_eq_true rfl, Nat.le_of_ble_eq_true rfl⟩) ⟨hx, hb, hml, hown, hts⟩ hK hP hD hS hA rfl rfl rfl [0, 1, 2, 3, 4, 5, 6, 7, 8] [] [0, 1, 2, 3, 4, 5, 6, 7, 8] (by decide) rfl (wr := []) rfl (by decide) (by decide) (by decide) rfl rfl hl.1 rfl (Nat.le_of_ble_eq_true rfl) dX3_executeLow_95 ⟨Nat.zero_le _, Nat.zero_le _⟩ (fun H locs hP hD hS => ?_)
        refine lv_goto (tgt := 187) hx hb dX3_executeLow_98 (by decide) ?_
        have hF : xExecuteLow f a p1 = (f_5, a_5) := by
          unfold xExecuteLow
          refine (if_pos c_1).trans ?_
          refine (if_pos c_2).trans ?_
          rewrite [hB_4]
          dsimp only
          rewrite [hB_5]
          rfl
        rw [hF]
        exact KC.retv hx hb hr hlocks hK hP hD hS dX3_executeLow_187
      · exact absurd c_3 (by decide)
    by_cases c_6 : p1 &&& (7 : Int32) = (2 : Int32)
    · refine k_tin (tgt := 101) hx hb (2 : Int32) c_6 dX3_executeLow_31 (by decide) (by decide) rfl (by decide) ?_
      refine lv_aload_n hx hb dX3_executeLow_101 rfl (lv_at hl 3 rfl) ?_
      refine lv_iload_n hx hb dX3_executeLow_102 rfl (lv_at hl 1 rfl) ?_
      obtain ⟨f_7, a_7, hB_7⟩ := k_ex2 (xLoadOrStore f a ((p1 >>> ((3 : Int32) &&& 31)) &&& (7 : Int32)))
      have kc_7 := kX3_loadOrStore l D cI o f a ((p1 >>> ((3 : Int32) &&& 31)) &&& (7 : Int32))
      rw [hB_7] at kc_7; dsimp only at kc_7
      refine KC.callv (ci := 3) (rest := []) (wt := wP cI o f_7 a_7) (kc_7) (cwV 1 hts gX3_executeLow_X3_loadOrStore rfl rfl rfl (by decide +kernel) ⟨Nat.le_of_ble_eq_true rfl, Nat.le_of_ble_eq_true rfl⟩) ⟨hx, hb, hml, hown, hts⟩ hK hP hD hS hA rfl rfl rfl [0, 1, 2, 3, 4, 5, 6, 7, 8] [] [0, 1, 2, 3, 4, 5, 6, 7, 8] (by decide) rfl (wr := []) rfl (by decide) (by decide) (by decide) rfl rfl hl.1 rfl (Nat.le_of_ble_eq_true rfl) dX3_executeLow_103 ⟨Nat.zero_le _, Nat.zero_le _⟩ (fun H locs hP hD hS => ?_)
      refine lv_goto (tgt := 187) hx hb dX3_executeLow_106 (by decide) ?_
      have hF : xExecuteLow f a p1 = (f_7, a_7) := by
        unfold xExecuteLow
        refine (if_pos c_1).trans ?_
        refine (if_neg c_2).trans ?_
        refine (if_pos c_6).trans ?_
        rewrite [hB_7]
        rfl
      rw [hF]
      exact KC.retv hx hb hr hlocks hK hP hD hS dX3_executeLow_187
    by_cases c_8 : p1 &&& (7 : Int32) = (3 : Int32)
    · refine k_tin (tgt := 109) hx hb (3 : Int32) c_8 dX3_executeLow_31 (by decide) (by decide) rfl (by decide) ?_
      refine lv_aload_n hx hb dX3_executeLow_109 rfl (lv_at hl 3 rfl) ?_
      refine lv_iload_n hx hb dX3_executeLow_110 rfl (lv_at hl 2 rfl) ?_
      refine lv_aload_n hx hb dX3_executeLow_111 rfl (lv_at hl 3 rfl) ?_
      refine lv_iload_n hx hb dX3_executeLow_112 rfl (lv_at hl 2 rfl) ?_
      refine KC.calli (ci := 3) (rest := [.int ((p1 >>> ((4 : Int32) &&& 31)) &&& (3 : Int32)), .ref (o 0)]) (wt := wP cI o f a) (kX3_pairOrSp l D cI o f a ((p1 >>> ((4 : Int32) &&& 31)) &&& (3 : Int32))) (cwV 1 hts gX3_executeLow_X3_pairOrSp rfl rfl rfl (by decide +kernel) ⟨Nat.le_of_ble_eq_true rfl, Nat.le_of_ble_eq_true rfl⟩) ⟨hx, hb, hml, hown, hts⟩ hK hP hD hS hA rfl rfl rfl [0, 1, 2, 3, 4, 5, 6, 7, 8] [] [0, 1, 2, 3, 4, 5, 6, 7, 8] (by decide) rfl (wr := []) rfl (by decide) (by decide) (by decide) rfl rfl hl.1 rfl (Nat.le_of_ble_eq_true rfl) dX3_executeLow_113 ⟨Nat.zero_le _, Nat.zero_le _⟩ (fun H locs hP hD hS => ?_)
      refine lv_iload hx hb dX3_executeLow_116 (lv_at hl 0 rfl) ?_
      refine lv_if_eq (tgt := 125) hx hb dX3_executeLow_118 (by decide) (fun c_9 => ?_) (fun c_9 => ?_)
      · refine lv_iconst (v := 1) hx hb dX3_executeLow_125 (by decide) ?_
        refine lv_iadd hx hb dX3_executeLow_126 ?_
        obtain ⟨f_10, a_10, hB_10⟩ := k_ex2 (xSetPairOrSp f a ((p1 >>> ((4 : Int32) &&& 31)) &&& (3 : Int32)) ((xPairOrSp f a ((p1 >>> ((4 : Int32) &&& 31)) &&& (3 : Int32))) + (1 : Int32)))
        have kc_10 := kX3_setPairOrSp l D cI o f a ((p1 >>> ((4 : Int32) &&& 31)) &&& (3 : Int32)) ((xPairOrSp f a ((p1 >>> ((4 : Int32) &&& 31)) &&& (3 : Int32))) + (1 : Int32))
        rw [hB_10] at kc_10; dsimp only at kc_10
        refine KC.callv (ci := 3) (rest := []) (wt := wP cI o f_10 a_10) (kc_10) (cwV 2 hts gX3_executeLow_X3_setPairOrSp rfl rfl rfl (by decide +kernel) ⟨Nat.le_of_ble_eq_true rfl, Nat.le_of_ble_eq_true rfl⟩) ⟨hx, hb, hml, hown, hts⟩ hK hP hD hS hA rfl rfl rfl [0, 1, 2, 3, 4, 5, 6, 7, 8] [] [0, 1, 2, 3, 4, 5, 6, 7, 8] (by decide) rfl (wr := []) rfl (by decide) (by decide) (by decide) rfl rfl hl.1 rfl (Nat.le_of_ble_eq_true rfl) dX3_executeLow_127 ⟨Nat.zero_le _, Nat.zero_le _⟩ (fun H locs hP hD hS => ?_)
        refine lv_goto (tgt := 187) hx hb dX3_executeLow_130 (by decide) ?_
        have hF : xExecuteLow f a p1 = (f_10, a_10) := by
          unfold xExecuteLow
          refine (if_pos c_1).trans ?_
          refine (if_neg c_2).trans ?_
          refine (if_neg c_6).trans ?_
          refine (if_pos c_8).trans ?_
          rewrite [hB_10]
          rfl
        rw [hF]
        exact KC.retv hx hb hr hlocks hK hP hD hS dX3_executeLow_187
      · exact absurd c_9 (by decide)
    by_cases c_11 : p1 &&& (7 : Int32) = (4 : Int32)
    · refine k_tin (tgt := 133) hx hb (4 : Int32) c_11 dX3_executeLow_31 (by decide) (by decide) rfl (by decide) ?_
      refine lv_aload_n hx hb dX3_executeLow_133 rfl (lv_at hl 3 rfl) ?_
      refine lv_iload_n hx hb dX3_executeLow_134 rfl (lv_at hl 1 rfl) ?_
      refine lv_aload_n hx hb dX3_executeLow_135 rfl (lv_at hl 3 rfl) ?_
      refine lv_aload_n hx hb dX3_executeLow_136 rfl (lv_at hl 3 rfl) ?_
      refine lv_iload_n hx hb dX3_executeLow_137 rfl (lv_at hl 1 rfl) ?_
      refine KC.calli (ci := 3) (rest := [.ref (o 0), .int ((p1 >>> ((3 : Int32) &&& 31)) &&& (7 : Int32)), .ref (o 0)]) (wt := wP cI o f a) (kX3_operand l D cI o f a ((p1 >>> ((3 : Int32) &&& 31)) &&& (7 : Int32))) (cwV 1 hts gX3_executeLow_X3_operand rfl rfl rfl (by decide +kernel) ⟨Nat.le_of_ble_eq_true rfl, Nat.le_of_ble_eq_true rfl⟩) ⟨hx, hb, hml, hown, hts⟩ hK hP hD hS hA rfl rfl rfl [0, 1, 2, 3, 4, 5, 6, 7, 8] [] [0, 1, 2, 3, 4, 5, 6, 7, 8] (by decide) rfl (wr := []) rfl (by decide) (by decide) (by decide) rfl rfl hl.1 rfl (Nat.le_of_ble_eq_true rfl) dX3_executeLow_138 ⟨Nat.zero_le _, Nat.zero_le _⟩ (fun H locs hP hD hS => ?_)
      obtain ⟨r_12, f_12, hB_12⟩ := k_ex2 (xIncrement f a (xOperand f a ((p1 >>> ((3 : Int32) &&& 31)) &&& (7 : Int32))))
      have kc_12 := kX3_increment l D cI o f a (xOperand f a ((p1 >>> ((3 : Int32) &&& 31)) &&& (7 : Int32)))
      rw [hB_12] at kc_12; dsimp only at kc_12
      refine KC.calli (ci := 3) (rest := [.int ((p1 >>> ((3 : Int32) &&& 31)) &&& (7 : Int32)), .ref (o 0)]) (wt := wP cI o f_12 a) (kc_12) (cwV 1 hts gX3_executeLow_X3_increment rfl rfl rfl (by decide +kernel) ⟨Nat.le_of_ble_eq_true rfl, Nat.le_of_ble_eq_true rfl⟩) ⟨hx, hb, hml, hown, hts⟩ hK hP hD hS hA rfl rfl rfl [0, 1, 2, 3, 4, 5, 6, 7, 8] [] [0, 1, 2, 3, 4, 5, 6, 7, 8] (by decide) rfl (wr := []) rfl (by decide) (by decide) (by decide) rfl rfl hl.1 rfl (Nat.le_of_ble_eq_true rfl) dX3_executeLow_141 ⟨Nat.zero_le _, Nat.zero_le _⟩ (fun H locs hP hD hS => ?_)
      refine KC.callv (ci := 3) (rest := []) (wt := wP cI o f_12 (xSetOperand f_12 a ((p1 >>> ((3 : Int32) &&& 31)) &&& (7 : Int32)) r_12)) (kX3_setOperand l D cI o f_12 a ((p1 >>> ((3 : Int32) &&& 31)) &&& (7 : Int32)) r_12) (cwV 2 hts gX3_executeLow_X3_setOperand rfl rfl rfl (by decide +kernel) ⟨Nat.le_of_ble_eq_true rfl, Nat.le_of_ble_eq_true rfl⟩) ⟨hx, hb, hml, hown, hts⟩ hK hP hD hS hA rfl rfl rfl [0, 1, 2, 3, 4, 5, 6, 7, 8] [] [0, 1, 2, 3, 4, 5, 6, 7, 8] (by decide) rfl (wr := []) rfl (by decide) (by decide) (by decide) rfl rfl hl.1 rfl (Nat.le_of_ble_eq_true rfl) dX3_executeLow_144 ⟨Nat.zero_le _, Nat.zero_le _⟩ (fun H locs hP hD hS => ?_)
      refine lv_goto (tgt := 187) hx hb dX3_executeLow_147 (by decide) ?_
      have hF : xExecuteLow f a p1 = (f_12, xSetOperand f_12 a ((p1 >>> ((3 : Int32) &&& 31)) &&& (7 : Int32)) r_12) := by
        unfold xExecuteLow
        refine (if_pos c_1).trans ?_
        refine (if_neg c_2).trans ?_
        refine (if_neg c_6).trans ?_
        refine (if_neg c_8).trans ?_
        refine (if_pos c_11).trans ?_
        rewrite [hB_12]
        rfl
      rw [hF]
      exact KC.retv hx hb hr hlocks hK hP hD hS dX3_executeLow_187
    by_cases c_13 : p1 &&& (7 : Int32) = (5 : Int32)
    · refine k_tin (tgt := 150) hx hb (5 : Int32) c_13 dX3_executeLow_31 (by decide) (by decide) rfl (by decide) ?_
      refine lv_aload_n hx hb dX3_executeLow_150 rfl (lv_at hl 3 rfl) ?_
      refine lv_iload_n hx hb dX3_executeLow_151 rfl (lv_at hl 1 rfl) ?_
      refine lv_aload_n hx hb dX3_executeLow_152 rfl (lv_at hl 3 rfl) ?_
      refine lv_aload_n hx hb dX3_executeLow_153 rfl (lv_at hl 3 rfl) ?_
      refine lv_iload_n hx hb dX3_executeLow_154 rfl (lv_at hl 1 rfl) ?_
      refine KC.calli (ci := 3) (rest := [.ref (o 0), .int ((p1 >>> ((3 : Int32) &&& 31)) &&& (7 : Int32)), .ref (o 0)]) (wt := wP cI o f a) (kX3_operand l D cI o f a ((p1 >>> ((3 : Int32) &&& 31)) &&& (7 : Int32))) (cwV 1 hts gX3_executeLow_X3_operand rfl rfl rfl (by decide +kernel) ⟨Nat.le_of_ble_eq_true rfl, Nat.le_of_ble_eq_true rfl⟩) ⟨hx, hb, hml, hown, hts⟩ hK hP hD hS hA rfl rfl rfl [0, 1, 2, 3, 4, 5, 6, 7, 8] [] [0, 1, 2, 3, 4, 5, 6, 7, 8] (by decide) rfl (wr := []) rfl (by decide) (by decide) (by decide) rfl rfl hl.1 rfl (Nat.le_of_ble_eq_true rfl) dX3_executeLow_155 ⟨Nat.zero_le _, Nat.zero_le _⟩ (fun H locs hP hD hS => ?_)
      obtain ⟨r_14, f_14, hB_14⟩ := k_ex2 (xDecrement f a (xOperand f a ((p1 >>> ((3 : Int32) &&& 31)) &&& (7 : Int32))))
      have kc_14 := kX3_decrement l D cI o f a (xOperand f a ((p1 >>> ((3 : Int32) &&& 31)) &&& (7 : Int32)))
      rw [hB_14] at kc_14; dsimp only at kc_14
      refine KC.calli (ci := 3) (rest := [.int ((p1 >>> ((3 : Int32) &&& 31)) &&& (7 : Int32)), .ref (o 0)]) (wt := wP cI o f_14 a) (kc_14) (cwV 1 hts gX3_executeLow_X3_decrement rfl rfl rfl (by decide +kernel) ⟨Nat.le_of_ble_eq_true rfl, Nat.le_of_ble_eq_true rfl⟩) ⟨hx, hb, hml, hown, hts⟩ hK hP hD hS hA rfl rfl rfl [0, 1, 2, 3, 4, 5, 6, 7, 8] [] [0, 1, 2, 3, 4, 5, 6, 7, 8] (by decide) rfl (wr := []) rfl (by decide) (by decide) (by decide) rfl rfl hl.1 rfl (Nat.le_of_ble_eq_true rfl) dX3_executeLow_158 ⟨Nat.zero_le _, Nat.zero_le _⟩ (fun H locs hP hD hS => ?_)
      refine KC.callv (ci := 3) (rest := []) (wt := wP cI o f_14 (xSetOperand f_14 a ((p1 >>> ((3 : Int32) &&& 31)) &&& (7 : Int32)) r_14)) (kX3_setOperand l D cI o f_14 a ((p1 >>> ((3 : Int32) &&& 31)) &&& (7 : Int32)) r_14) (cwV 2 hts gX3_executeLow_X3_setOperand rfl rfl rfl (by decide +kernel) ⟨Nat.le_of_ble_eq_true rfl, Nat.le_of_ble_eq_true rfl⟩) ⟨hx, hb, hml, hown, hts⟩ hK hP hD hS hA rfl rfl rfl [0, 1, 2, 3, 4, 5, 6, 7, 8] [] [0, 1, 2, 3, 4, 5, 6, 7, 8] (by decide) rfl (wr := []) rfl (by decide) (by decide) (by decide) rfl rfl hl.1 rfl (Nat.le_of_ble_eq_true rfl) dX3_executeLow_161 ⟨Nat.zero_le _, Nat.zero_le _⟩ (fun H locs hP hD hS => ?_)
      refine lv_goto (tgt := 187) hx hb dX3_executeLow_164 (by decide) ?_
      have hF : xExecuteLow f a p1 = (f_14, xSetOperand f_14 a ((p1 >>> ((3 : Int32) &&& 31)) &&& (7 : Int32)) r_14) := by
        unfold xExecuteLow
        refine (if_pos c_1).trans ?_
        refine (if_neg c_2).trans ?_
        refine (if_neg c_6).trans ?_
        refine (if_neg c_8).trans ?_
        refine (if_neg c_11).trans ?_
        refine (if_pos c_13).trans ?_
        rewrite [hB_14]
        rfl
      rw [hF]
      exact KC.retv hx hb hr hlocks hK hP hD hS dX3_executeLow_187
    by_cases c_15 : p1 &&& (7 : Int32) = (6 : Int32)
    · refine k_tin (tgt := 167) hx hb (6 : Int32) c_15 dX3_executeLow_31 (by decide) (by decide) rfl (by decide) ?_
      refine lv_aload_n hx hb dX3_executeLow_167 rfl (lv_at hl 3 rfl) ?_
      refine lv_iload_n hx hb dX3_executeLow_168 rfl (lv_at hl 1 rfl) ?_
      refine lv_aload_n hx hb dX3_executeLow_169 rfl (lv_at hl 3 rfl) ?_
      obtain ⟨r_16, f_16, hB_16⟩ := k_ex2 (xFetch f a)
      have kc_16 := kX3_fetch l D cI o f a
      rw [hB_16] at kc_16; dsimp only at kc_16
      refine KC.calli (ci := 3) (rest := [.int ((p1 >>> ((3 : Int32) &&& 31)) &&& (7 : Int32)), .ref (o 0)]) (wt := wP cI o f_16 a) (kc_16) (cwV 0 hts gX3_executeLow_X3_fetch rfl rfl rfl (by decide +kernel) ⟨Nat.le_of_ble_eq_true rfl, Nat.le_of_ble_eq_true rfl⟩) ⟨hx, hb, hml, hown, hts⟩ hK hP hD hS hA rfl rfl rfl [0, 1, 2, 3, 4, 5, 6, 7, 8] [] [0, 1, 2, 3, 4, 5, 6, 7, 8] (by decide) rfl (wr := []) rfl (by decide) (by decide) (by decide) rfl rfl hl.1 rfl (Nat.le_of_ble_eq_true rfl) dX3_executeLow_170 ⟨Nat.zero_le _, Nat.zero_le _⟩ (fun H locs hP hD hS => ?_)
      refine KC.callv (ci := 3) (rest := []) (wt := wP cI o f_16 (xSetOperand f_16 a ((p1 >>> ((3 : Int32) &&& 31)) &&& (7 : Int32)) r_16)) (kX3_setOperand l D cI o f_16 a ((p1 >>> ((3 : Int32) &&& 31)) &&& (7 : Int32)) r_16) (cwV 2 hts gX3_executeLow_X3_setOperand rfl rfl rfl (by decide +kernel) ⟨Nat.le_of_ble_eq_true rfl, Nat.le_of_ble_eq_true rfl⟩) ⟨hx, hb, hml, hown, hts⟩ hK hP hD hS hA rfl rfl rfl [0, 1, 2, 3, 4, 5, 6, 7, 8] [] [0, 1, 2, 3, 4, 5, 6, 7, 8] (by decide) rfl (wr := []) rfl (by decide) (by decide) (by decide) rfl rfl hl.1 rfl (Nat.le_of_ble_eq_true rfl) dX3_executeLow_173 ⟨Nat.zero_le _, Nat.zero_le _⟩ (fun H locs hP hD hS => ?_)
      refine lv_goto (tgt := 187) hx hb dX3_executeLow_176 (by decide) ?_
      have hF : xExecuteLow f a p1 = (f_16, xSetOperand f_16 a ((p1 >>> ((3 : Int32) &&& 31)) &&& (7 : Int32)) r_16) := by
        unfold xExecuteLow
        refine (if_pos c_1).trans ?_
        refine (if_neg c_2).trans ?_
        refine (if_neg c_6).trans ?_
        refine (if_neg c_8).trans ?_
        refine (if_neg c_11).trans ?_
        refine (if_neg c_13).trans ?_
        refine (if_pos c_15).trans ?_
        rewrite [hB_16]
        rfl
      rw [hF]
      exact KC.retv hx hb hr hlocks hK hP hD hS dX3_executeLow_187
    by_cases c_17 : p1 &&& (7 : Int32) = (7 : Int32)
    · refine k_tin (tgt := 179) hx hb (7 : Int32) c_17 dX3_executeLow_31 (by decide) (by decide) rfl (by decide) ?_
      refine lv_aload_n hx hb dX3_executeLow_179 rfl (lv_at hl 3 rfl) ?_
      refine lv_iload_n hx hb dX3_executeLow_180 rfl (lv_at hl 1 rfl) ?_
      obtain ⟨f_18, a_18, hB_18⟩ := k_ex2 (xChangeAcc f a ((p1 >>> ((3 : Int32) &&& 31)) &&& (7 : Int32)))
      have kc_18 := kX3_changeAccumulator l D cI o f a ((p1 >>> ((3 : Int32) &&& 31)) &&& (7 : Int32))
      rw [hB_18] at kc_18; dsimp only at kc_18
      refine KC.callv (ci := 3) (rest := []) (wt := wP cI o f_18 a_18) (kc_18) (cwV 1 hts gX3_executeLow_X3_changeAccumulator rfl rfl rfl (by decide +kernel) ⟨Nat.le_of_ble_eq_true rfl, Nat.le_of_ble_eq_true rfl⟩) ⟨hx, hb, hml, hown, hts⟩ hK hP hD hS hA rfl rfl rfl [0, 1, 2, 3, 4, 5, 6, 7, 8] [] [0, 1, 2, 3, 4, 5, 6, 7, 8] (by decide) rfl (wr := []) rfl (by decide) (by decide) (by decide) rfl rfl hl.1 rfl (Nat.le_of_ble_eq_true rfl) dX3_executeLow_181 ⟨Nat.zero_le _, Nat.zero_le _⟩ (fun H locs hP hD hS => ?_)
      refine lv_goto (tgt := 187) hx hb dX3_executeLow_184 (by decide) ?_
      have hF : xExecuteLow f a p1 = (f_18, a_18) := by
        unfold xExecuteLow
        refine (if_pos c_1).trans ?_
        refine (if_neg c_2).trans ?_
        refine (if_neg c_6).trans ?_
        refine (if_neg c_8).trans ?_
        refine (if_neg c_11).trans ?_
        refine (if_neg c_13).trans ?_
        refine (if_neg c_15).trans ?_
        refine (if_pos c_17).trans ?_
        rewrite [hB_18]
        rfl
      rw [hF]
      exact KC.retv hx hb hr hlocks hK hP hD hS dX3_executeLow_187
    refine lv_tableOut (tgt := 187) hx hb dX3_executeLow_31 (by have := lv_neT c_2 (k := (1 : Int32)) (a := 1) (by decide); have := lv_neT c_6 (k := (2 : Int32)) (a := 2) (by decide); have := lv_neT c_8 (k := (3 : Int32)) (a := 3) (by decide); have := lv_neT c_11 (k := (4 : Int32)) (a := 4) (by decide); have := lv_neT c_13 (k := (5 : Int32)) (a := 5) (by decide); have := lv_neT c_15 (k := (6 : Int32)) (a := 6) (by decide); have := lv_neT c_17 (k := (7 : Int32)) (a := 7) (by decide); omega) (by decide) ?_
    have hF : xExecuteLow f a p1 = (f, a) := by
      unfold xExecuteLow
      refine (if_pos c_1).trans ?_
      refine (if_neg c_2).trans ?_
      refine (if_neg c_6).trans ?_
      refine (if_neg c_8).trans ?_
      refine (if_neg c_11).trans ?_
      refine (if_neg c_13).trans ?_
      refine (if_neg c_15).trans ?_
      refine (if_neg c_17).trans ?_
      rfl
    rw [hF]
    exact KC.retv hx hb hr hlocks hK hP hD hS dX3_executeLow_187
  · refine lv_iconst (v := 1) hx hb dX3_executeLow_20 (by decide) ?_
    refine lv_goto (tgt := 25) hx hb dX3_executeLow_21 (by decide) ?_
    refine lv_istore (lv' := [(4, .int _), (3, .int _), (2, .int _), (0, .ref _), (1, .int _)]) hx hb dX3_executeLow_25 hl (by decide) rfl (fun ls hl => ?_)
    refine lv_iload_n hx hb dX3_executeLow_27 rfl (lv_at hl 4 rfl) ?_
    refine lv_bipush (v := 7) hx hb dX3_executeLow_28 (by decide) ?_
    refine lv_iand hx hb dX3_executeLow_30 ?_
    by_cases c_19 : p1 &&& (7 : Int32) = (1 : Int32)
    · refine k_tin (tgt := 72) hx hb (1 : Int32) c_19 dX3_executeLow_31 (by decide) (by decide) rfl (by decide) ?_
      refine lv_iload hx hb dX3_executeLow_72 (lv_at hl 0 rfl) ?_
      refine lv_if_eq (tgt := 89) hx hb dX3_executeLow_74 (by decide) (fun c_20 => ?_) (fun c_20 => ?_)
      · exact absurd c_20 (by decide)
      · refine lv_aload_n hx hb dX3_executeLow_77 rfl (lv_at hl 3 rfl) ?_
        refine lv_aload_n hx hb dX3_executeLow_78 rfl (lv_at hl 3 rfl) ?_
        refine lv_iload_n hx hb dX3_executeLow_79 rfl (lv_at hl 2 rfl) ?_
        refine KC.calli (ci := 3) (rest := [.ref (o 0)]) (wt := wP cI o f a) (kX3_pairOrSp l D cI o f a ((p1 >>> ((4 : Int32) &&& 31)) &&& (3 : Int32))) (cwV 1 hts gX3_executeLow_X3_pairOrSp rfl rfl rfl (by decide +kernel) ⟨Nat.le_of_ble_eq_true rfl, Nat.le_of_ble_eq_true rfl⟩) ⟨hx, hb, hml, hown, hts⟩ hK hP hD hS hA rfl rfl rfl [0, 1, 2, 3, 4, 5, 6, 7, 8] [] [0, 1, 2, 3, 4, 5, 6, 7, 8] (by decide) rfl (wr := []) rfl (by decide) (by decide) (by decide) rfl rfl hl.1 rfl (Nat.le_of_ble_eq_true rfl) dX3_executeLow_80 ⟨Nat.zero_le _, Nat.zero_le _⟩ (fun H locs hP hD hS => ?_)
        obtain ⟨f_21, a_21, hB_21⟩ := k_ex2 (xAddToHl f a (xPairOrSp f a ((p1 >>> ((4 : Int32) &&& 31)) &&& (3 : Int32))))
        have kc_21 := kX3_addToHl l D cI o f a (xPairOrSp f a ((p1 >>> ((4 : Int32) &&& 31)) &&& (3 : Int32)))
        rw [hB_21] at kc_21; dsimp only at kc_21
        refine KC.callv (ci := 3) (rest := []) (wt := wP cI o f_21 a_21) (kc_21) (cwV 1 hts gX3_executeLow_X3_addToHl rfl rfl rfl (by decide +kernel) ⟨Nat.le_of_ble_eq_true rfl, Nat.le_of_ble_eq_true rfl⟩) ⟨hx, hb, hml, hown, hts⟩ hK hP hD hS hA rfl rfl rfl [0, 1, 2, 3, 4, 5, 6, 7, 8] [] [0, 1, 2, 3, 4, 5, 6, 7, 8] (by decide) rfl (wr := []) rfl (by decide) (by decide) (by decide) rfl rfl hl.1 rfl (Nat.le_of_ble_eq_true rfl) dX3_executeLow_83 ⟨Nat.zero_le _, Nat.zero_le _⟩ (fun H locs hP hD hS => ?_)
        refine lv_goto (tgt := 187) hx hb dX3_executeLow_86 (by decide) ?_
        have hF : xExecuteLow f a p1 = (f_21, a_21) := by
          unfold xExecuteLow
          refine (if_neg c_1).trans ?_
          refine (if_pos c_19).trans ?_
          rewrite [hB_21]
          rfl
        rw [hF]
        exact KC.retv hx hb hr hlocks hK hP hD hS dX3_executeLow_187
    by_cases c_22 : p1 &&& (7 : Int32) = (2 : Int32)
    · refine k_tin (tgt := 101) hx hb (2 : Int32) c_22 dX3_executeLow_31 (by decide) (by decide) rfl (by decide) ?_
      refine lv_aload_n hx hb dX3_executeLow_101 rfl (lv_at hl 3 rfl) ?_
      refine lv_iload_n hx hb dX3_executeLow_102 rfl (lv_at hl 1 rfl) ?_
      obtain ⟨f_23, a_23, hB_23⟩ := k_ex2 (xLoadOrStore f a ((p1 >>> ((3 : Int32) &&& 31)) &&& (7 : Int32)))
      have kc_23 := kX3_loadOrStore l D cI o f a ((p1 >>> ((3 : Int32) &&& 31)) &&& (7 : Int32))
      rw [hB_23] at kc_23; dsimp only at kc_23
      refine KC.callv (ci := 3) (rest := []) (wt := wP cI o f_23 a_23) (kc_23) (cwV 1 hts gX3_executeLow_X3_loadOrStore rfl rfl rfl (by decide +kernel) ⟨Nat.le_of_ble_eq_true rfl, Nat.le_of_ble_eq_true rfl⟩) ⟨hx, hb, hml, hown, hts⟩ hK hP hD hS hA rfl rfl rfl [0, 1, 2, 3, 4, 5, 6, 7, 8] [] [0, 1, 2, 3, 4, 5, 6, 7, 8] (by decide) rfl (wr := []) rfl (by decide) (by decide) (by decide) rfl rfl hl.1 rfl (Nat.le_of_ble_eq_true rfl) dX3_executeLow_103 ⟨Nat.zero_le _, Nat.zero_le _⟩ (fun H locs hP hD hS => ?_)
      refine lv_goto (tgt := 187) hx hb dX3_executeLow_106 (by decide) ?_
      have hF : xExecuteLow f a p1 = (f_23, a_23) := by
        unfold xExecuteLow
        refine (if_neg c_1).trans ?_
        refine (if_neg c_19).trans ?_
        refine (if_pos c_22).trans ?_
        rewrite [hB_23]
        rfl
      rw [hF]
      exact KC.retv hx hb hr hlocks hK hP hD hS dX3_executeLow_187
    by_cases c_24 : p1 &&& (7 : Int32) = (3 : Int32)
    · refine k_tin (tgt := 109) hx hb (3 : Int32) c_24 dX3_executeLow_31 (by decide) (by decide) rfl (by decide) ?_
      refine lv_aload_n hx hb dX3_executeLow_109 rfl (lv_at hl 3 rfl) ?_
      refine lv_iload_n hx hb dX3_executeLow_110 rfl (lv_at hl 2 rfl) ?_
      refine lv_aload_n hx hb dX3_executeLow_111 rfl (lv_at hl 3 rfl) ?_
      refine lv_iload_n hx hb dX3_executeLow_112 rfl (lv_at hl 2 rfl) ?_
      refine KC.calli (ci := 3) (rest := [.int ((p1 >>> ((4 : Int32) &&& 31)) &&& (3 : Int32)), .ref (o 0)]) (wt := wP cI o f a) (kX3_pairOrSp l D cI o f a ((p1 >>> ((4 : Int32) &&& 31)) &&& (3 : Int32))) (cwV 1 hts gX3_executeLow_X3_pairOrSp rfl rfl rfl (by decide +kernel) ⟨Nat.le_of_ble_eq_true rfl, Nat.le_of_ble_eq_true rfl⟩) ⟨hx, hb, hml, hown, hts⟩ hK hP hD hS hA rfl rfl rfl [0, 1, 2, 3, 4, 5, 6, 7, 8] [] [0, 1, 2, 3, 4, 5, 6, 7, 8] (by decide) rfl (wr := []) rfl (by decide) (by decide) (by decide) rfl rfl hl.1 rfl (Nat.le_of_ble_eq_true rfl) dX3_executeLow_113 ⟨Nat.zero_le _, Nat.zero_le _⟩ (fun H locs hP hD hS => ?_)
      refine lv_iload hx hb dX3_executeLow_116 (lv_at hl 0 rfl) ?_
      refine lv_if_eq (tgt := 125) hx hb dX3_executeLow_118 (by decide) (fun c_25 => ?_) (fun c_25 => ?_)
      · exact absurd c_25 (by decide)
      · refine lv_iconst (v := -1) hx hb dX3_executeLow_121 (by decide) ?_
        refine lv_goto (tgt := 126) hx hb dX3_executeLow_122 (by decide) ?_
        refine lv_iadd hx hb dX3_executeLow_126 ?_
        obtain ⟨f_26, a_26, hB_26⟩ := k_ex2 (xSetPairOrSp f a ((p1 >>> ((4 : Int32) &&& 31)) &&& (3 : Int32)) ((xPairOrSp f a ((p1 >>> ((4 : Int32) &&& 31)) &&& (3 : Int32))) + (-1 : Int32)))
        have kc_26 := kX3_setPairOrSp l D cI o f a ((p1 >>> ((4 : Int32) &&& 31)) &&& (3 : Int32)) ((xPairOrSp f a ((p1 >>> ((4 : Int32) &&& 31)) &&& (3 : Int32))) + (-1 : Int32))
        rw [hB_26] at kc_26; dsimp only at kc_26
        refine KC.callv (ci := 3) (rest := []) (wt := wP cI o f_26 a_26) (kc_26) (cwV 2 hts gX3_executeLow_X3_setPairOrSp rfl rfl rfl (by decide +kernel) ⟨Nat.le_of_ble_eq_true rfl, Nat.le_of_ble_eq_true rfl⟩) ⟨hx, hb, hml, hown, hts⟩ hK hP hD hS hA rfl rfl rfl [0, 1, 2, 3, 4, 5, 6, 7, 8] [] [0, 1, 2, 3, 4, 5, 6, 7, 8] (by decide) rfl (wr := []) rfl (by decide) (by decide) (by decide) rfl rfl hl.1 rfl (Nat.le_of_ble_eq_true rfl) dX3_executeLow_127 ⟨Nat.zero_le _, Nat.zero_le _⟩ (fun H locs hP hD hS => ?_)
        refine lv_goto (tgt := 187) hx hb dX3_executeLow_130 (by decide) ?_
        have hF : xExecuteLow f a p1 = (f_26, a_26) := by
          unfold xExecuteLow
          refine (if_neg c_1).trans ?_
          refine (if_neg c_19).trans ?_
          refine (if_neg c_22).trans ?_
          refine (if_pos c_24).trans ?_
          rewrite [hB_26]
          rfl
        rw [hF]
        exact KC.retv hx hb hr hlocks hK hP hD hS dX3_executeLow_187
    by_cases c_27 : p1 &&& (7 : Int32) = (4 : Int32)
    · refine k_tin (tgt := 133) hx hb (4 : Int32) c_27 dX3_executeLow_31 (by decide) (by decide) rfl (by decide) ?_
      refine lv_aload_n hx hb dX3_executeLow_133 rfl (lv_at hl 3 rfl) ?_
      refine lv_iload_n hx hb dX3_executeLow_134 rfl (lv_at hl 1 rfl) ?_
      refine lv_aload_n hx hb dX3_executeLow_135 rfl (lv_at hl 3 rfl) ?_
      refine lv_aload_n hx hb dX3_executeLow_136 rfl (lv_at hl 3 rfl) ?_
      refine lv_iload_n hx hb dX3_executeLow_137 rfl (lv_at hl 1 rfl) ?_
      refine KC.calli (ci := 3) (rest := [.ref (o 0), .int ((p1 >>> ((3 : Int32) &&& 31)) &&& (7 : Int32)), .ref (o 0)]) (wt := wP cI o f a) (kX3_operand l D cI o f a ((p1 >>> ((3 : Int32) &&& 31)) &&& (7 : Int32))) (cwV 1 hts gX3_executeLow_X3_operand rfl rfl rfl (by decide +kernel) ⟨Nat.le_of_ble_eq_true rfl, Nat.le_of_ble_eq_true rfl⟩) ⟨hx, hb, hml, hown, hts⟩ hK hP hD hS hA rfl rfl rfl [0, 1, 2, 3, 4, 5, 6, 7, 8] [] [0, 1, 2, 3, 4, 5, 6, 7, 8] (by decide) rfl (wr := []) rfl (by decide) (by decide) (by decide) rfl rfl hl.1 rfl (Nat.le_of_ble_eq_true rfl) dX3_executeLow_138 ⟨Nat.zero_le _, Nat.zero_le _⟩ (fun H locs hP hD hS => ?_)
      obtain ⟨r_28, f_28, hB_28⟩ := k_ex2 (xIncrement f a (xOperand f a ((p1 >>> ((3 : Int32) &&& 31)) &&& (7 : Int32))))
      have kc_28 := kX3_increment l D cI o f a (xOperand f a ((p1 >>> ((3 : Int32) &&& 31)) &&& (7 : Int32)))
      rw [hB_28] at kc_28; dsimp only at kc_28
      refine KC.calli (ci := 3) (rest := [.int ((p1 >>> ((3 : Int32) &&& 31)) &&& (7 : Int32)), .ref (o 0)]) (wt := wP cI o f_28 a) (kc_28) (cwV 1 hts gX3_executeLow_X3_increment rfl rfl rfl (by decide +kernel) ⟨Nat.le_of_ble_eq_true rfl, Nat.le_of_ble_eq_true rfl⟩) ⟨hx, hb, hml, hown, hts⟩ hK hP hD hS hA rfl rfl rfl [0, 1, 2, 3, 4, 5, 6, 7, 8] [] [0, 1, 2, 3, 4, 5, 6, 7, 8] (by decide) rfl (wr := []) rfl (by decide) (by decide) (by decide) rfl rfl hl.1 rfl (Nat.le_of_ble_eq_true rfl) dX3_executeLow_141 ⟨Nat.zero_le _, Nat.zero_le _⟩ (fun H locs hP hD hS => ?_)
      refine KC.callv (ci := 3) (rest := []) (wt := wP cI o f_28 (xSetOperand f_28 a ((p1 >>> ((3 : Int32) &&& 31)) &&& (7 : Int32)) r_28)) (kX3_setOperand l D cI o f_28 a ((p1 >>> ((3 : Int32) &&& 31)) &&& (7 : Int32)) r_28) (cwV 2 hts gX3_executeLow_X3_setOperand rfl rfl rfl (by decide +kernel) ⟨Nat.le_of_ble_eq_true rfl, Nat.le_of_ble_eq_true rfl⟩) ⟨hx, hb, hml, hown, hts⟩ hK hP hD hS hA rfl rfl rfl [0, 1, 2, 3, 4, 5, 6, 7, 8] [] [0, 1, 2, 3, 4, 5, 6, 7, 8] (by decide) rfl (wr := []) rfl (by decide) (by decide) (by decide) rfl rfl hl.1 rfl (Nat.le_of_ble_eq_true rfl) dX3_executeLow_144 ⟨Nat.zero_le _, Nat.zero_le _⟩ (fun H locs hP hD hS => ?_)
      refine lv_goto (tgt := 187) hx hb dX3_executeLow_147 (by decide) ?_
      have hF : xExecuteLow f a p1 = (f_28, xSetOperand f_28 a ((p1 >>> ((3 : Int32) &&& 31)) &&& (7 : Int32)) r_28) := by
        unfold xExecuteLow
        refine (if_neg c_1).trans ?_
        refine (if_neg c_19).trans ?_
        refine (if_neg c_22).trans ?_
        refine (if_neg c_24).trans ?_
        refine (if_pos c_27).trans ?_
        rewrite [hB_28]
        rfl
      rw [hF]
      exact KC.retv hx hb hr hlocks hK hP hD hS dX3_executeLow_187
    by_cases c_29 : p1 &&& (7 : Int32) = (5 : Int32)
    · refine k_tin (tgt := 150) hx hb (5 : Int32) c_29 dX3_executeLow_31 (by decide) (by decide) rfl (by decide) ?_
      refine lv_aload_n hx hb dX3_executeLow_150 rfl (lv_at hl 3 rfl) ?_
      refine lv_iload_n hx hb dX3_executeLow_151 rfl (lv_at hl 1 rfl) ?_
      refine lv_aload_n hx hb dX3_executeLow_152 rfl (lv_at hl 3 rfl) ?_
      refine lv_aload_n hx hb dX3_executeLow_153 rfl (lv_at hl 3 rfl) ?_
      refine lv_iload_n hx hb dX3_executeLow_154 rfl (lv_at hl 1 rfl) ?_
      refine KC.calli (ci := 3) (rest := [.ref (o 0), .int ((p1 >>> ((3 : Int32) &&& 31)) &&& (7 : Int32)), .ref (o 0)]) (wt := wP cI o f a) (kX3_operand l D cI o f a ((p1 >>> ((3 : Int32) &&& 31)) &&& (7 : Int32))) (cwV 1 hts gX3_executeLow_X3_operand rfl rfl rfl (by decide +kernel) ⟨Nat.le_of_ble_eq_true rfl, Nat.le_of_ble_eq_true rfl⟩) ⟨hx, hb, hml, hown, hts⟩ hK hP hD hS hA rfl rfl rfl [0, 1, 2, 3, 4, 5, 6, 7, 8] [] [0, 1, 2, 3, 4, 5, 6, 7, 8] (by decide) rfl (wr := []) rfl (by decide) (by decide) (by decide) rfl rfl hl.1 rfl (Nat.le_of_ble_eq_true rfl) dX3_executeLow_155 ⟨Nat.zero_le _, Nat.zero_le _⟩ (fun H locs hP hD hS => ?_)
      obtain ⟨r_30, f_30, hB_30⟩ := k_ex2 (xDecrement f a (xOperand f a ((p1 >>> ((3 : Int32) &&& 31)) &&& (7 : Int32))))
      have kc_30 := kX3_decrement l D cI o f a (xOperand f a ((p1 >>> ((3 : Int32) &&& 31)) &&& (7 : Int32)))
      rw [hB_30] at kc_30; dsimp only at kc_30
      refine KC.calli (ci := 3) (rest := [.int ((p1 >>> ((3 : Int32) &&& 31)) &&& (7 : Int32)), .ref (o 0)]) (wt := wP cI o f_30 a) (kc_30) (cwV 1 hts gX3_executeLow_X3_decrement rfl rfl rfl (by decide +kernel) ⟨Nat.le_of_ble_eq_true rfl, Nat.le_of_ble_eq_true rfl⟩) ⟨hx, hb, hml, hown, hts⟩ hK hP hD hS hA rfl rfl rfl [0, 1, 2, 3, 4, 5, 6, 7, 8] [] [0, 1, 2, 3, 4, 5, 6, 7, 8] (by decide) rfl (wr := []) rfl (by decide) (by decide) (by decide) rfl rfl hl.1 rfl (Nat.le_of_ble_eq_true rfl) dX3_executeLow_158 ⟨Nat.zero_le _, Nat.zero_le _⟩ (fun H locs hP hD hS => ?_)
      refine KC.callv (ci := 3) (rest := []) (wt := wP cI o f_30 (xSetOperand f_30 a ((p1 >>> ((3 : Int32) &&& 31)) &&& (7 : Int32)) r_30)) (kX3_setOperand l D cI o f_30 a ((p1 >>> ((3 : Int32) &&& 31)) &&& (7 : Int32)) r_30) (cwV 2 hts gX3_executeLow_X3_setOperand rfl rfl rfl (by decide +kernel) ⟨Nat.le_of_ble_eq_true rfl, Nat.le_of_ble_eq_true rfl⟩) ⟨hx, hb, hml, hown, hts⟩ hK hP hD hS hA rfl rfl rfl [0, 1, 2, 3, 4, 5, 6, 7, 8] [] [0, 1, 2, 3, 4, 5, 6, 7, 8] (by decide) rfl (wr := []) rfl (by decide) (by decide) (by decide) rfl rfl hl.1 rfl (Nat.le_of_ble_eq_true rfl) dX3_executeLow_161 ⟨Nat.zero_le _, Nat.zero_le _⟩ (fun H locs hP hD hS => ?_)
      refine lv_goto (tgt := 187) hx hb dX3_executeLow_164 (by decide) ?_
      have hF : xExecuteLow f a p1 = (f_30, xSetOperand f_30 a ((p1 >>> ((3 : Int32) &&& 31)) &&& (7 : Int32)) r_30) := by
        unfold xExecuteLow
        refine (if_neg c_1).trans ?_
        refine (if_neg c_19).trans ?_
        refine (if_neg c_22).trans ?_
        refine (if_neg c_24).trans ?_
        refine (if_neg c_27).trans ?_
        refine (if_pos c_29).trans ?_
        rewrite [hB_30]
        rfl
      rw [hF]
      exact KC.retv hx hb hr hlocks hK hP hD hS dX3_executeLow_187
    by_cases c_31 : p1 &&& (7 : Int32) = (6 : Int32)
    · refine k_tin (tgt := 167) hx hb (6 : Int32) c_31 dX3_executeLow_31 (by decide) (by decide) rfl (by decide) ?_
      refine lv_aload_n hx hb dX3_executeLow_167 rfl (lv_at hl 3 rfl) ?_
      refine lv_iload_n hx hb dX3_executeLow_168 rfl (lv_at hl 1 rfl) ?_
      refine lv_aload_n hx hb dX3_executeLow_169 rfl (lv_at hl 3 rfl) ?_
      obtain ⟨r_32, f_32, hB_32⟩ := k_ex2 (xFetch f a)
      have kc_32 := kX3_fetch l D cI o f a
      rw [hB_32] at kc_32; dsimp only at kc_32
      refine KC.calli (ci := 3) (rest := [.int ((p1 >>> ((3 : Int32) &&& 31)) &&& (7 : Int32)), .ref (o 0)]) (wt := wP cI o f_32 a) (kc_32) (cwV 0 hts gX3_executeLow_X3_fetch rfl rfl rfl (by decide +kernel) ⟨Nat.le_of_ble_eq_true rfl, Nat.le_of_ble_eq_true rfl⟩) ⟨hx, hb, hml, hown, hts⟩ hK hP hD hS hA rfl rfl rfl [0, 1, 2, 3, 4, 5, 6, 7, 8] [] [0, 1, 2, 3, 4, 5, 6, 7, 8] (by decide) rfl (wr := []) rfl (by decide) (by decide) (by decide) rfl rfl hl.1 rfl (Nat.le_of_ble_eq_true rfl) dX3_executeLow_170 ⟨Nat.zero_le _, Nat.zero_le _⟩ (fun H locs hP hD hS => ?_)
      refine KC.callv (ci := 3) (rest := []) (wt := wP cI o f_32 (xSetOperand f_32 a ((p1 >>> ((3 : Int32) &&& 31)) &&& (7 : Int32)) r_32)) (kX3_setOperand l D cI o f_32 a ((p1 >>> ((3 : Int32) &&& 31)) &&& (7 : Int32)) r_32) (cwV 2 hts gX3_executeLow_X3_setOperand rfl rfl rfl (by decide +kernel) ⟨Nat.le_of_ble_eq_true rfl, Nat.le_of_ble_eq_true rfl⟩) ⟨hx, hb, hml, hown, hts⟩ hK hP hD hS hA rfl rfl rfl [0, 1, 2, 3, 4, 5, 6, 7, 8] [] [0, 1, 2, 3, 4, 5, 6, 7, 8] (by decide) rfl (wr := []) rfl (by decide) (by decide) (by decide) rfl rfl hl.1 rfl (Nat.le_of_ble_eq_true rfl) dX3_executeLow_173 ⟨Nat.zero_le _, Nat.zero_le _⟩ (fun H locs hP hD hS => ?_)
      refine lv_goto (tgt := 187) hx hb dX3_executeLow_176 (by decide) ?_
      have hF : xExecuteLow f a p1 = (f_32, xSetOperand f_32 a ((p1 >>> ((3 : Int32) &&& 31)) &&& (7 : Int32)) r_32) := by
        unfold xExecuteLow
        refine (if_neg c_1).trans ?_
        refine (if_neg c_19).trans ?_
        refine (if_neg c_22).trans ?_
        refine (if_neg c_24).trans ?_
        refine (if_neg c_27).trans ?_
        refine (if_neg c_29).trans ?_
        refine (if_pos c_31).trans ?_
        rewrite [hB_32]
        rfl
      rw [hF]
      exact KC.retv hx hb hr hlocks hK hP hD hS dX3_executeLow_187
    by_cases c_33 : p1 &&& (7 : Int32) = (7 : Int32)
    · refine k_tin (tgt := 179) hx hb (7 : Int32) c_33 dX3_executeLow_31 (by decide) (by decide) rfl (by decide) ?_
      refine lv_aload_n hx hb dX3_executeLow_179 rfl (lv_at hl 3 rfl) ?_
      refine lv_iload_n hx hb dX3_executeLow_180 rfl (lv_at hl 1 rfl) ?_
      obtain ⟨f_34, a_34, hB_34⟩ := k_ex2 (xChangeAcc f a ((p1 >>> ((3 : Int32) &&& 31)) &&& (7 : Int32)))
      have kc_34 := kX3_changeAccumulator l D cI o f a ((p1 >>> ((3 : Int32) &&& 31)) &&& (7 : Int32))
      rw [hB_34] at kc_34; dsimp only at kc_34
      refine KC.callv (ci := 3) (rest := []) (wt := wP cI o f_34 a_34) (kc_34) (cwV 1 hts gX3_executeLow_X3_changeAccumulator rfl rfl rfl (by decide +kernel) ⟨Nat.le_of_ble_eq_true rfl, Nat.le_of_ble_eq_true rfl⟩) ⟨hx, hb, hml, hown, hts⟩ hK hP hD hS hA rfl rfl rfl [0, 1, 2, 3, 4, 5, 6, 7, 8] [] [0, 1, 2, 3, 4, 5, 6, 7, 8] (by decide) rfl (wr := []) rfl (by decide) (by decide) (by decide) rfl rfl hl.1 rfl (Nat.le_of_ble_eq_true rfl) dX3_executeLow_181 ⟨Nat.zero_le _, Nat.zero_le _⟩ (fun H locs hP hD hS => ?_)
      refine lv_goto (tgt := 187) hx hb dX3_executeLow_184 (by decide) ?_
      have hF : xExecuteLow f a p1 = (f_34, a_34) := by
        unfold xExecuteLow
        refine (if_neg c_1).trans ?_
        refine (if_neg c_19).trans ?_
        refine (if_neg c_22).trans ?_
        refine (if_neg c_24).trans ?_
        refine (if_neg c_27).trans ?_
        refine (if_neg c_29).trans ?_
        refine (if_neg c_31).trans ?_
        refine (if_pos c_33).trans ?_
        rewrite [hB_34]
        rfl
      rw [hF]
      exact KC.retv hx hb hr hlocks hK hP hD hS dX3_executeLow_187
    refine lv_tableOut (tgt := 187) hx hb dX3_executeLow_31 (by have := lv_neT c_19 (k := (1 : Int32)) (a := 1) (by decide); have := lv_neT c_22 (k := (2 : Int32)) (a := 2) (by decide); have := lv_neT c_24 (k := (3 : Int32)) (a := 3) (by decide); have := lv_neT c_27 (k := (4 : Int32)) (a := 4) (by decide); have := lv_neT c_29 (k := (5 : Int32)) (a := 5) (by decide); have := lv_neT c_31 (k := (6 : Int32)) (a := 6) (by decide); have := lv_neT c_33 (k := (7 : Int32)) (a := 7) (by decide); omega) (by decide) ?_
    have hF : xExecuteLow f a p1 = (f, a) := by
      unfold xExecuteLow
      refine (if_neg c_1).trans ?_
      refine (if_neg c_19).trans ?_
      refine (if_neg c_22).trans ?_
      refine (if_neg c_24).trans ?_
      refine (if_neg c_27).trans ?_
      refine (if_neg c_29).trans ?_
      refine (if_neg c_31).trans ?_
      refine (if_neg c_33).trans ?_
      rfl
    rw [hF]
    exact KC.retv hx hb hr hlocks hK hP hD hS dX3_executeLow_187
def xExecuteHigh (f : Nat → Int32) (a : Nat → Nat → Int32) (p1 : Int32) : Int32 × (Nat → Int32) × (Nat → Nat → Int32) :=
  if p1 &&& (7 : Int32) = (0 : Int32) then (match xReturnIf f a (xHolds f a ((p1 >>> ((3 : Int32) &&& 31)) &&& (7 : Int32))) with
    | (r_2, f_2) => (r_2, f_2, a))
  else if p1 &&& (7 : Int32) = (1 : Int32) then (match xPopOrReturn f a ((p1 >>> ((3 : Int32) &&& 31)) &&& (7 : Int32)) with
      | (f_4, a_4) => ((0 : Int32), f_4, a_4))
    else if p1 &&& (7 : Int32) = (2 : Int32) then ((0 : Int32), xJumpIf f a (xHolds f a ((p1 >>> ((3 : Int32) &&& 31)) &&& (7 : Int32))), a)
      else if p1 &&& (7 : Int32) = (3 : Int32) then (match xExecuteSingle f a ((p1 >>> ((3 : Int32) &&& 31)) &&& (7 : Int32)) with
          | (f_7, a_7) => ((0 : Int32), f_7, a_7))
        else if p1 &&& (7 : Int32) = (4 : Int32) then (match xCallIf f a (xHolds f a ((p1 >>> ((3 : Int32) &&& 31)) &&& (7 : Int32))) with
            | (r_9, f_9, a_9) => (r_9, f_9, a_9))
          else if p1 &&& (7 : Int32) = (5 : Int32) then if ((p1 >>> ((3 : Int32) &&& 31)) &&& (7 : Int32)) &&& (1 : Int32) = 0 then if (p1 >>> ((3 : Int32) &&& 31)) &&& (7 : Int32) = (6 : Int32) then (match xPush f a (xStatusWord f a) with
                  | (f_14, a_14) => ((0 : Int32), f_14, a_14))
                else (match xPush f a (xPairAt f a ((p1 >>> ((3 : Int32) &&& 31)) &&& (7 : Int32))) with
                  | (f_13, a_13) => ((0 : Int32), f_13, a_13))
              else (match xCallIf f a (1 : Int32) with
                | (r_15, f_15, a_15) => ((0 : Int32), f_15, a_15))
            else if p1 &&& (7 : Int32) = (6 : Int32) then (match xFetch f a with
                | (r_17, f_17) => (match xCalculate f_17 a ((p1 >>> ((3 : Int32) &&& 31)) &&& (7 : Int32)) r_17 with
                  | (f_18, a_18) => ((0 : Int32), f_18, a_18)))
              else (match xPush f a (f 1) with
                | (f_19, a_19) => ((0 : Int32), upd f_19 1 ((8 : Int32) * ((p1 >>> ((3 : Int32) &&& 31)) &&& (7 : Int32))), a_19))
set_option maxHeartbeats 4000000 in
set_option maxRecDepth 100000 in
theorem kX3_executeHigh (l : Launch) (D : va_G) (cI : ClassId) (o : Nat → Nat) (f : Nat → Int32) (a : Nat → Nat → Int32) (p1 : Int32) : KC l yX3_executeHigh wsX3_executeHigh 4 [.ref (o 0), .int p1] D cI (wP cI o f a) (wP cI o ((xExecuteHigh f a p1).2.1) ((xExecuteHigh f a p1).2.2)) (some (.int (xExecuteHigh f a p1).1)) := by
  refine KC.of (cc := cX3_executeHigh) (maxL := 3) (by decide) rfl (Nat.le_of_ble_eq_true rfl) ?_
  intro p e s m below meth c A hx hb hr hts hown hlocks hml hK hP hD hS hA ls hl
  have hl : lv_has ls 3 [(0, .ref (o 0)), (1, .int p1)] := hl
  have hown : s.vm.findClass RX3 = some m.cls := hown
  have hi3 : ∀ w ∈ u_ws RX3 TX3 9, w ∈ wsX3_executeHigh := fun w h => List.mem_cons_of_mem _ (List.mem_append_left _ (List.mem_append_left _ (List.mem_append_right _ h)))
  refine lv_iload_n hx hb dX3_executeHigh_0 rfl (lv_at hl 1 rfl) ?_
  refine lv_iconst (v := 3) hx hb dX3_executeHigh_1 (by decide) ?_
  refine lv_ishr hx hb dX3_executeHigh_2 ?_
  refine lv_bipush (v := 7) hx hb dX3_executeHigh_3 (by decide) ?_
  refine lv_iand hx hb dX3_executeHigh_5 ?_
  refine lv_istore_n (lv' := [(2, .int _), (0, .ref _), (1, .int _)]) hx hb dX3_executeHigh_6 rfl hl (by decide) rfl (fun ls hl => ?_)
  refine lv_iload_n hx hb dX3_executeHigh_7 rfl (lv_at hl 2 rfl) ?_
  refine lv_bipush (v := 7) hx hb dX3_executeHigh_8 (by decide) ?_
  refine lv_iand hx hb dX3_executeHigh_10 ?_
  by_cases c_1 : p1 &&& (7 : Int32) = (0 : Int32)
  · refine k_tin (tgt := 52) hx hb (0 : Int32) c_1 dX3_executeHigh_11 (by decide) (by decide) rfl (by decide) ?_
    refine lv_aload_n hx hb dX3_executeHigh_52 rfl (lv_at hl 1 rfl) ?_
    refine lv_aload_n hx hb dX3_executeHigh_53 rfl (lv_at hl 1 rfl) ?_
    refine lv_iload_n hx hb dX3_executeHigh_54 rfl (lv_at hl 0 rfl) ?_
    refine KC.calli (ci := 3) (rest := [.ref (o 0)]) (wt := wP cI o f a) (kX3_holds l D cI o f a ((p1 >>> ((3 : Int32) &&& 31)) &&& (7 : Int32))) (cwV 1 hts gX3_executeHigh_X3_holds rfl rfl rfl (by decide +kernel) ⟨Nat.le_of_ble_eq_true rfl, Nat.le_of_ble_eq_true rfl⟩) ⟨hx, hb, hml, hown, hts⟩ hK hP hD hS hA rfl rfl rfl [0, 1, 2, 3, 4, 5, 6, 7, 8] [] [0, 1, 2, 3, 4, 5, 6, 7, 8] (by decide) rfl (wr := []) rfl (by decide) (by decide) (by decide) rfl rfl hl.1 rfl (Nat.le_of_ble_eq_true rfl) dX3_executeHigh_55 ⟨Nat.zero_le _, Nat.zero_le _⟩ (fun H locs hP hD hS => ?_)
    obtain ⟨r_2, f_2, hB_2⟩ := k_ex2 (xReturnIf f a (xHolds f a ((p1 >>> ((3 : Int32) &&& 31)) &&& (7 : Int32))))
    have kc_2 := kX3_returnIf l D cI o f a (xHolds f a ((p1 >>> ((3 : Int32) &&& 31)) &&& (7 : Int32)))
    rw [hB_2] at kc_2; dsimp only at kc_2
    refine KC.calli (ci := 3) (rest := []) (wt := wP cI o f_2 a) (kc_2) (cwV 1 hts gX3_executeHigh_X3_returnIf rfl rfl rfl (by decide +kernel) ⟨Nat.le_of_ble_eq_true rfl, Nat.le_of_ble_eq_true rfl⟩) ⟨hx, hb, hml, hown, hts⟩ hK hP hD hS hA rfl rfl rfl [0, 1, 2, 3, 4, 5, 6, 7, 8] [] [0, 1, 2, 3, 4, 5, 6, 7, 8] (by decide) rfl (wr := []) rfl (by decide) (by decide) (by decide) rfl rfl hl.1 rfl (Nat.le_of_ble_eq_true rfl) dX3_executeHigh_58 ⟨Nat.zero_le _, Nat.zero_le _⟩ (fun H locs hP hD hS => ?_)
    have hF : xExecuteHigh f a p1 = (r_2, f_2, a) := by
      unfold xExecuteHigh
      refine (if_pos c_1).trans ?_
      rewrite [hB_2]
      rfl
    rw [hF]
    exact KC.reti hx hb hr hlocks hK hP hD hS dX3_executeHigh_61 rfl
  by_cases c_3 : p1 &&& (7 : Int32) = (1 : Int32)
  · refine k_tin (tgt := 62) hx hb (1 : Int32) c_3 dX3_executeHigh_11 (by decide) (by decide) rfl (by decide) ?_
    refine lv_aload_n hx hb dX3_executeHigh_62 rfl (lv_at hl 1 rfl) ?_
    refine lv_iload_n hx hb dX3_executeHigh_63 rfl (lv_at hl 0 rfl) ?_
    obtain ⟨f_4, a_4, hB_4⟩ := k_ex2 (xPopOrReturn f a ((p1 >>> ((3 : Int32) &&& 31)) &&& (7 : Int32)))
    have kc_4 := kX3_popOrReturn l D cI o f a ((p1 >>> ((3 : Int32) &&& 31)) &&& (7 : Int32))
    rw [hB_4] at kc_4; dsimp only at kc_4
    refine KC.callv (ci := 3) (rest := []) (wt := wP cI o f_4 a_4) (kc_4) (cwV 1 hts gX3_executeHigh_X3_popOrReturn rfl rfl rfl (by decide +kernel) ⟨Nat.le_of_ble_eq_true rfl, Nat.le_of_ble_eq_true rfl⟩) ⟨hx, hb, hml, hown, hts⟩ hK hP hD hS hA rfl rfl rfl [0, 1, 2, 3, 4, 5, 6, 7, 8] [] [0, 1, 2, 3, 4, 5, 6, 7, 8] (by decide) rfl (wr := []) rfl (by decide) (by decide) (by decide) rfl rfl hl.1 rfl (Nat.le_of_ble_eq_true rfl) dX3_executeHigh_64 ⟨Nat.zero_le _, Nat.zero_le _⟩ (fun H locs hP hD hS => ?_)
    refine lv_iconst (v := 0) hx hb dX3_executeHigh_67 (by decide) ?_
    have hF : xExecuteHigh f a p1 = ((0 : Int32), f_4, a_4) := by
      unfold xExecuteHigh
      refine (if_neg c_1).trans ?_
      refine (if_pos c_3).trans ?_
      rewrite [hB_4]
      rfl
    rw [hF]
    exact KC.reti hx hb hr hlocks hK hP hD hS dX3_executeHigh_68 rfl
  by_cases c_5 : p1 &&& (7 : Int32) = (2 : Int32)
  · refine k_tin (tgt := 69) hx hb (2 : Int32) c_5 dX3_executeHigh_11 (by decide) (by decide) rfl (by decide) ?_
    refine lv_aload_n hx hb dX3_executeHigh_69 rfl (lv_at hl 1 rfl) ?_
    refine lv_aload_n hx hb dX3_executeHigh_70 rfl (lv_at hl 1 rfl) ?_
    refine lv_iload_n hx hb dX3_executeHigh_71 rfl (lv_at hl 0 rfl) ?_
    refine KC.calli (ci := 3) (rest := [.ref (o 0)]) (wt := wP cI o f a) (kX3_holds l D cI o f a ((p1 >>> ((3 : Int32) &&& 31)) &&& (7 : Int32))) (cwV 1 hts gX3_executeHigh_X3_holds rfl rfl rfl (by decide +kernel) ⟨Nat.le_of_ble_eq_true rfl, Nat.le_of_ble_eq_true rfl⟩) ⟨hx, hb, hml, hown, hts⟩ hK hP hD hS hA rfl rfl rfl [0, 1, 2, 3, 4, 5, 6, 7, 8] [] [0, 1, 2, 3, 4, 5, 6, 7, 8] (by decide) rfl (wr := []) rfl (by decide) (by decide) (by decide) rfl rfl hl.1 rfl (Nat.le_of_ble_eq_true rfl) dX3_executeHigh_72 ⟨Nat.zero_le _, Nat.zero_le _⟩ (fun H locs hP hD hS => ?_)
    refine KC.callv (ci := 3) (rest := []) (wt := wP cI o (xJumpIf f a (xHolds f a ((p1 >>> ((3 : Int32) &&& 31)) &&& (7 : Int32)))) a) (kX3_jumpIf l D cI o f a (xHolds f a ((p1 >>> ((3 : Int32) &&& 31)) &&& (7 : Int32)))) (cwV 1 hts gX3_executeHigh_X3_jumpIf rfl rfl rfl (by decide +kernel) ⟨Nat.le_of_ble_eq_true rfl, Nat.le_of_ble_eq_true rfl⟩) ⟨hx, hb, hml, hown, hts⟩ hK hP hD hS hA rfl rfl rfl [0, 1, 2, 3, 4, 5, 6, 7, 8] [] [0, 1, 2, 3, 4, 5, 6, 7, 8] (by decide) rfl (wr := []) rfl (by decide) (by decide) (by decide) rfl rfl hl.1 rfl (Nat.le_of_ble_eq_true rfl) dX3_executeHigh_75 ⟨Nat.zero_le _, Nat.zero_le _⟩ (fun H locs hP hD hS => ?_)
    refine lv_iconst (v := 0) hx hb dX3_executeHigh_78 (by decide) ?_
    have hF : xExecuteHigh f a p1 = ((0 : Int32), xJumpIf f a (xHolds f a ((p1 >>> ((3 : Int32) &&& 31)) &&& (7 : Int32))), a) := by
      unfold xExecuteHigh
      refine (if_neg c_1).trans ?_
      refine (if_neg c_3).trans ?_
      refine (if_pos c_5).trans ?_
      rfl
    rw [hF]
    exact KC.reti hx hb hr hlocks hK hP hD hS dX3_executeHigh_79 rfl
  by_cases c_6 : p1 &&& (7 : Int32) = (3 : Int32)
  · refine k_tin (tgt := 80) hx hb (3 : Int32) c_6 dX3_executeHigh_11 (by decide) (by decide) rfl (by decide) ?_
    refine lv_aload_n hx hb dX3_executeHigh_80 rfl (lv_at hl 1 rfl) ?_
    refine lv_iload_n hx hb dX3_executeHigh_81 rfl (lv_at hl 0 rfl) ?_
    obtain ⟨f_7, a_7, hB_7⟩ := k_ex2 (xExecuteSingle f a ((p1 >>> ((3 : Int32) &&& 31)) &&& (7 : Int32)))
    have kc_7 := kX3_executeSingle l D cI o f a ((p1 >>> ((3 : Int32) &&& 31)) &&& (7 : Int32))
    rw [hB_7] at kc_7; dsimp only at kc_7
    refine KC.callv (ci := 3) (rest := []) (wt := wP cI o f_7 a_7) (kc_7) (cwV 1 hts gX3_executeHigh_X3_executeSingle rfl rfl rfl (by decide +kernel) ⟨Nat.le_of_ble_eq_true rfl, Nat.le_of_ble_eq_true rfl⟩) ⟨hx, hb, hml, hown, hts⟩ hK hP hD hS hA rfl rfl rfl [0, 1, 2, 3, 4, 5, 6, 7, 8] [] [0, 1, 2, 3, 4, 5, 6, 7, 8] (by decide) rfl (wr := []) rfl (by decide) (by decide) (by decide) rfl rfl hl.1 rfl (Nat.le_of_ble_eq_true rfl) dX3_executeHigh_82 ⟨Nat.zero_le _, Nat.zero_le _⟩ (fun H locs hP hD hS => ?_)
    refine lv_iconst (v := 0) hx hb dX3_executeHigh_85 (by decide) ?_
    have hF : xExecuteHigh f a p1 = ((0 : Int32), f_7, a_7) := by
      unfold xExecuteHigh
      refine (if_neg c_1).trans ?_
      refine (if_neg c_3).trans ?_
      refine (if_neg c_5).trans ?_
      refine (if_pos c_6).trans ?_
      rewrite [hB_7]
      rfl
    rw [hF]
    exact KC.reti hx hb hr hlocks hK hP hD hS dX3_executeHigh_86 rfl
  by_cases c_8 : p1 &&& (7 : Int32) = (4 : Int32)
  · refine k_tin (tgt := 87) hx hb (4 : Int32) c_8 dX3_executeHigh_11 (by decide) (by decide) rfl (by decide) ?_
    refine lv_aload_n hx hb dX3_executeHigh_87 rfl (lv_at hl 1 rfl) ?_
    refine lv_aload_n hx hb dX3_executeHigh_88 rfl (lv_at hl 1 rfl) ?_
    refine lv_iload_n hx hb dX3_executeHigh_89 rfl (lv_at hl 0 rfl) ?_
    refine KC.calli (ci := 3) (rest := [.ref (o 0)]) (wt := wP cI o f a) (kX3_holds l D cI o f a ((p1 >>> ((3 : Int32) &&& 31)) &&& (7 : Int32))) (cwV 1 hts gX3_executeHigh_X3_holds rfl rfl rfl (by decide +kernel) ⟨Nat.le_of_ble_eq_true rfl, Nat.le_of_ble_eq_true rfl⟩) ⟨hx, hb, hml, hown, hts⟩ hK hP hD hS hA rfl rfl rfl [0, 1, 2, 3, 4, 5, 6, 7, 8] [] [0, 1, 2, 3, 4, 5, 6, 7, 8] (by decide) rfl (wr := []) rfl (by decide) (by decide) (by decide) rfl rfl hl.1 rfl (Nat.le_of_ble_eq_true rfl) dX3_executeHigh_90 ⟨Nat.zero_le _, Nat.zero_le _⟩ (fun H locs hP hD hS => ?_)
    obtain ⟨r_9, f_9, a_9, hB_9⟩ := k_ex3 (xCallIf f a (xHolds f a ((p1 >>> ((3 : Int32) &&& 31)) &&& (7 : Int32))))
    have kc_9 := kX3_callIf l D cI o f a (xHolds f a ((p1 >>> ((3 : Int32) &&& 31)) &&& (7 : Int32)))
    rw [hB_9] at kc_9; dsimp only at kc_9
    refine KC.calli (ci := 3) (rest := []) (wt := wP cI o f_9 a_9) (kc_9) (cwV 1 hts gX3_executeHigh_X3_callIf rfl rfl rfl (by decide +kernel) ⟨Nat.le_of_ble_eq_true rfl, Nat.le_of_ble_eq_true rfl⟩) ⟨hx, hb, hml, hown, hts⟩ hK hP hD hS hA rfl rfl rfl [0, 1, 2, 3, 4, 5, 6, 7, 8] [] [0, 1, 2, 3, 4, 5, 6, 7, 8] (by decide) rfl (wr := []) rfl (by decide) (by decide) (by decide) rfl rfl hl.1 rfl (Nat.le_of_ble_eq_true rfl) dX3_executeHigh_93 ⟨Nat.zero_le _, Nat.zero_le _⟩ (fun H locs hP hD hS => ?_)
    have hF : xExecuteHigh f a p1 = (r_9, f_9, a_9) := by
      unfold xExecuteHigh
      refine (if_neg c_1).trans ?_
      refine (if_neg c_3).trans ?_
      refine (if_neg c_5).trans ?_
      refine (if_neg c_6).trans ?_
      refine (if_pos c_8).trans ?_
      rewrite [hB_9]
      rfl
    rw [hF]
    exact KC.reti hx hb hr hlocks hK hP hD hS dX3_executeHigh_96 rfl
  by_cases c_10 : p1 &&& (7 : Int32) = (5 : Int32)
  · refine k_tin (tgt := 97) hx hb (5 : Int32) c_10 dX3_executeHigh_11 (by decide) (by decide) rfl (by decide) ?_
    refine lv_iload_n hx hb dX3_executeHigh_97 rfl (lv_at hl 0 rfl) ?_
    refine lv_iconst (v := 1) hx hb dX3_executeHigh_98 (by decide) ?_
    refine lv_iand hx hb dX3_executeHigh_99 ?_
    refine lv_if_eq (tgt := 112) hx hb dX3_executeHigh_100 (by decide) (fun c_11 => ?_) (fun c_11 => ?_)
    · refine lv_aload_n hx hb dX3_executeHigh_112 rfl (lv_at hl 1 rfl) ?_
      refine lv_iload_n hx hb dX3_executeHigh_113 rfl (lv_at hl 0 rfl) ?_
      refine lv_bipush (v := 6) hx hb dX3_executeHigh_114 (by decide) ?_
      refine lv_icmp_ne (tgt := 126) hx hb dX3_executeHigh_116 (by decide) (fun c_12 => ?_) (fun c_12 => ?_)
      · refine lv_aload_n hx hb dX3_executeHigh_126 rfl (lv_at hl 1 rfl) ?_
        refine lv_iload_n hx hb dX3_executeHigh_127 rfl (lv_at hl 0 rfl) ?_
        refine KC.calli (ci := 3) (rest := [.ref (o 0)]) (wt := wP cI o f a) (kX3_pairAt l D cI o f a ((p1 >>> ((3 : Int32) &&& 31)) &&& (7 : Int32))) (cwV 1 hts gX3_executeHigh_X3_pairAt rfl rfl rfl (by decide +kernel) ⟨Nat.le_of_ble_eq_true rfl, Nat.le_of_ble_eq_true rfl⟩) ⟨hx, hb, hml, hown, hts⟩ hK hP hD hS hA rfl rfl rfl [0, 1, 2, 3, 4, 5, 6, 7, 8] [] [0, 1, 2, 3, 4, 5, 6, 7, 8] (by decide) rfl (wr := []) rfl (by decide) (by decide) (by decide) rfl rfl hl.1 rfl (Nat.le_of_ble_eq_true rfl) dX3_executeHigh_128 ⟨Nat.zero_le _, Nat.zero_le _⟩ (fun H locs hP hD hS => ?_)
        obtain ⟨f_13, a_13, hB_13⟩ := k_ex2 (xPush f a (xPairAt f a ((p1 >>> ((3 : Int32) &&& 31)) &&& (7 : Int32))))
        have kc_13 := kX3_push l D cI o f a (xPairAt f a ((p1 >>> ((3 : Int32) &&& 31)) &&& (7 : Int32)))
        rw [hB_13] at kc_13; dsimp only at kc_13
        refine KC.callv (ci := 3) (rest := []) (wt := wP cI o f_13 a_13) (kc_13) (cwV 1 hts gX3_executeHigh_X3_push rfl rfl rfl (by decide +kernel) ⟨Nat.le_of_ble_eq_true rfl, Nat.le_of_ble_eq_true rfl⟩) ⟨hx, hb, hml, hown, hts⟩ hK hP hD hS hA rfl rfl rfl [0, 1, 2, 3, 4, 5, 6, 7, 8] [] [0, 1, 2, 3, 4, 5, 6, 7, 8] (by decide) rfl (wr := []) rfl (by decide) (by decide) (by decide) rfl rfl hl.1 rfl (Nat.le_of_ble_eq_true rfl) dX3_executeHigh_131 ⟨Nat.zero_le _, Nat.zero_le _⟩ (fun H locs hP hD hS => ?_)
        refine lv_iconst (v := 0) hx hb dX3_executeHigh_134 (by decide) ?_
        have hF : xExecuteHigh f a p1 = ((0 : Int32), f_13, a_13) := by
          unfold xExecuteHigh
          refine (if_neg c_1).trans ?_
          refine (if_neg c_3).trans ?_
          refine (if_neg c_5).trans ?_
          refine (if_neg c_6).trans ?_
          refine (if_neg c_8).trans ?_
          refine (if_pos c_10).trans ?_
          refine (if_pos c_11).trans ?_
          refine (if_neg c_12).trans ?_
          rewrite [hB_13]
          rfl
        rw [hF]
        exact KC.reti hx hb hr hlocks hK hP hD hS dX3_executeHigh_135 rfl
      · refine lv_aload_n hx hb dX3_executeHigh_119 rfl (lv_at hl 1 rfl) ?_
        refine KC.calli (ci := 3) (rest := [.ref (o 0)]) (wt := wP cI o f a) (kX3_statusWord l D cI o f a) (cwV 0 hts gX3_executeHigh_X3_statusWord rfl rfl rfl (by decide +kernel) ⟨Nat.le_of_ble_eq_true rfl, Nat.le_of_ble_eq_true rfl⟩) ⟨hx, hb, hml, hown, hts⟩ hK hP hD hS hA rfl rfl rfl [0, 1, 2, 3, 4, 5, 6, 7, 8] [] [0, 1, 2, 3, 4, 5, 6, 7, 8] (by decide) rfl (wr := []) rfl (by decide) (by decide) (by decide) rfl rfl hl.1 rfl (Nat.le_of_ble_eq_true rfl) dX3_executeHigh_120 ⟨Nat.zero_le _, Nat.zero_le _⟩ (fun H locs hP hD hS => ?_)
        refine lv_goto (tgt := 131) hx hb dX3_executeHigh_123 (by decide) ?_
        obtain ⟨f_14, a_14, hB_14⟩ := k_ex2 (xPush f a (xStatusWord f a))
        have kc_14 := kX3_push l D cI o f a (xStatusWord f a)
        rw [hB_14] at kc_14; dsimp only at kc_14
        refine KC.callv (ci := 3) (rest := []) (wt := wP cI o f_14 a_14) (kc_14) (cwV 1 hts gX3_executeHigh_X3_push rfl rfl rfl (by decide +kernel) ⟨Nat.le_of_ble_eq_true rfl, Nat.le_of_ble_eq_true rfl⟩) ⟨hx, hb, hml, hown, hts⟩ hK hP hD hS hA rfl rfl rfl [0, 1, 2, 3, 4, 5, 6, 7, 8] [] [0, 1, 2, 3, 4, 5, 6, 7, 8] (by decide) rfl (wr := []) rfl (by decide) (by decide) (by decide) rfl rfl hl.1 rfl (Nat.le_of_ble_eq_true rfl) dX3_executeHigh_131 ⟨Nat.zero_le _, Nat.zero_le _⟩ (fun H locs hP hD hS => ?_)
        refine lv_iconst (v := 0) hx hb dX3_executeHigh_134 (by decide) ?_
        have hF : xExecuteHigh f a p1 = ((0 : Int32), f_14, a_14) := by
          unfold xExecuteHigh
          refine (if_neg c_1).trans ?_
          refine (if_neg c_3).trans ?_
          refine (if_neg c_5).trans ?_
          refine (if_neg c_6).trans ?_
          refine (if_neg c_8).trans ?_
          refine (if_pos c_10).trans ?_
          refine (if_pos c_11).trans ?_
          refine (if_pos c_12).trans ?_
          rewrite [hB_14]
          rfl
        rw [hF]
        exact KC.reti hx hb hr hlocks hK hP hD hS dX3_executeHigh_135 rfl
    · refine lv_aload_n hx hb dX3_executeHigh_103 rfl (lv_at hl 1 rfl) ?_
      refine lv_iconst (v := 1) hx hb dX3_executeHigh_104 (by decide) ?_
      obtain ⟨r_15, f_15, a_15, hB_15⟩ := k_ex3 (xCallIf f a (1 : Int32))
      have kc_15 := kX3_callIf l D cI o f a (1 : Int32)
      rw [hB_15] at kc_15; dsimp only at kc_15
      refine KC.calli (ci := 3) (rest := []) (wt := wP cI o f_15 a_15) (kc_15) (cwV 1 hts gX3_executeHigh_X3_callIf rfl rfl rfl (by decide +kernel) ⟨Nat.le_of_ble_eq_true rfl, Nat.le_of_ble_eq_true rfl⟩) ⟨hx, hb, hml, hown, hts⟩ hK hP hD hS hA rfl rfl rfl [0, 1, 2, 3, 4, 5, 6, 7, 8] [] [0, 1, 2, 3, 4, 5, 6, 7, 8] (by decide) rfl (wr := []) rfl (by decide) (by decide) (by decide) rfl rfl hl.1 rfl (Nat.le_of_ble_eq_true rfl) dX3_executeHigh_105 ⟨Nat.zero_le _, Nat.zero_le _⟩ (fun H locs hP hD hS => ?_)
      refine lv_pop hx hb dX3_executeHigh_108 rfl ?_
      refine lv_goto (tgt := 134) hx hb dX3_executeHigh_109 (by decide) ?_
      refine lv_iconst (v := 0) hx hb dX3_executeHigh_134 (by decide) ?_
      have hF : xExecuteHigh f a p1 = ((0 : Int32), f_15, a_15) := by
        unfold xExecuteHigh
        refine (if_neg c_1).trans ?_
        refine (if_neg c_3).trans ?_
        refine (if_neg c_5).trans ?_
        refine (if_neg c_6).trans ?_
        refine (if_neg c_8).trans ?_
        refine (if_pos c_10).trans ?_
        refine (if_neg c_11).trans ?_
        rewrite [hB_15]
        rfl
      rw [hF]
      exact KC.reti hx hb hr hlocks hK hP hD hS dX3_executeHigh_135 rfl
  by_cases c_16 : p1 &&& (7 : Int32) = (6 : Int32)
  · refine k_tin (tgt := 136) hx hb (6 : Int32) c_16 dX3_executeHigh_11 (by decide) (by decide) rfl (by decide) ?_
    refine lv_aload_n hx hb dX3_executeHigh_136 rfl (lv_at hl 1 rfl) ?_
    refine lv_iload_n hx hb dX3_executeHigh_137 rfl (lv_at hl 0 rfl) ?_
    refine lv_aload_n hx hb dX3_executeHigh_138 rfl (lv_at hl 1 rfl) ?_
    obtain ⟨r_17, f_17, hB_17⟩ := k_ex2 (xFetch f a)
    have kc_17 := kX3_fetch l D cI o f a
    rw [hB_17] at kc_17; dsimp only at kc_17
    refine KC.calli (ci := 3) (rest := [.int ((p1 >>> ((3 : Int32) &&& 31)) &&& (7 : Int32)), .ref (o 0)]) (wt := wP cI o f_17 a) (kc_17) (cwV 0 hts gX3_executeHigh_X3_fetch rfl rfl rfl (by decide +kernel) ⟨Nat.le_of_ble_eq_true rfl, Nat.le_of_ble_eq_true rfl⟩) ⟨hx, hb, hml, hown, hts⟩ hK hP hD hS hA rfl rfl rfl [0, 1, 2, 3, 4, 5, 6, 7, 8] [] [0, 1, 2, 3, 4, 5, 6, 7, 8] (by decide) rfl (wr := []) rfl (by decide) (by decide) (by decide) rfl rfl hl.1 rfl (Nat.le_of_ble_eq_true rfl) dX3_executeHigh_139 ⟨Nat.zero_le _, Nat.zero_le _⟩ (fun H locs hP hD hS => ?_)
    obtain ⟨f_18, a_18, hB_18⟩ := k_ex2 (xCalculate f_17 a ((p1 >>> ((3 : Int32) &&& 31)) &&& (7 : Int32)) r_17)
    have kc_18 := kX3_calculate l D cI o f_17 a ((p1 >>> ((3 : Int32) &&& 31)) &&& (7 : Int32)) r_17
    rw [hB_18] at kc_18; dsimp only at kc_18
    refine KC.callv (ci := 3) (rest := []) (wt := wP cI o f_18 a_18) (kc_18) (cwV 2 hts gX3_executeHigh_X3_calculate rfl rfl rfl (by decide +kernel) ⟨Nat.le_of_ble_eq_true rfl, Nat.le_of_ble_eq_true rfl⟩) ⟨hx, hb, hml, hown, hts⟩ hK hP hD hS hA rfl rfl rfl [0, 1, 2, 3, 4, 5, 6, 7, 8] [] [0, 1, 2, 3, 4, 5, 6, 7, 8] (by decide) rfl (wr := []) rfl (by decide) (by decide) (by decide) rfl rfl hl.1 rfl (Nat.le_of_ble_eq_true rfl) dX3_executeHigh_142 ⟨Nat.zero_le _, Nat.zero_le _⟩ (fun H locs hP hD hS => ?_)
    refine lv_iconst (v := 0) hx hb dX3_executeHigh_145 (by decide) ?_
    have hF : xExecuteHigh f a p1 = ((0 : Int32), f_18, a_18) := by
      unfold xExecuteHigh
      refine (if_neg c_1).trans ?_
      refine (if_neg c_3).trans ?_
      refine (if_neg c_5).trans ?_
      refine (if_neg c_6).trans ?_
      refine (if_neg c_8).trans ?_
      refine (if_neg c_10).trans ?_
      refine (if_pos c_16).trans ?_
      rewrite [hB_17]
      dsimp only
      rewrite [hB_18]
      rfl
    rw [hF]
    exact KC.reti hx hb hr hlocks hK hP hD hS dX3_executeHigh_146 rfl
  refine lv_tableOut (tgt := 147) hx hb dX3_executeHigh_11 (by have := lv_neT c_1 (k := (0 : Int32)) (a := 0) (by decide); have := lv_neT c_3 (k := (1 : Int32)) (a := 1) (by decide); have := lv_neT c_5 (k := (2 : Int32)) (a := 2) (by decide); have := lv_neT c_6 (k := (3 : Int32)) (a := 3) (by decide); have := lv_neT c_8 (k := (4 : Int32)) (a := 4) (by decide); have := lv_neT c_10 (k := (5 : Int32)) (a := 5) (by decide); have := lv_neT c_16 (k := (6 : Int32)) (a := 6) (by decide); omega) (by decide) ?_
  refine lv_aload_n hx hb dX3_executeHigh_147 rfl (lv_at hl 1 rfl) ?_
  refine lv_aload_n hx hb dX3_executeHigh_148 rfl (lv_at hl 1 rfl) ?_
  refine va_get (ci := 3) (v := .int (f 1)) (C := RX3) (T := TX3) (N := 9) hx hb hts hi3 hown hK hP 0 rfl rfl 5 (by decide) (hts (.fieldLink RX3 28 "InvaderBoard$Processor" "pc" "I") (List.mem_cons_of_mem _ (List.mem_append_left _ (List.mem_append_left _ (List.mem_append_left _ (List.mem_append_left _ (List.mem_of_getElem? (i := 0) rfl))))))) (fun _ h9 => h9) rfl dX3_executeHigh_149 ?_
  obtain ⟨f_19, a_19, hB_19⟩ := k_ex2 (xPush f a (f 1))
  have kc_19 := kX3_push l D cI o f a (f 1)
  rw [hB_19] at kc_19; dsimp only at kc_19
  refine KC.callv (ci := 3) (rest := []) (wt := wP cI o f_19 a_19) (kc_19) (cwV 1 hts gX3_executeHigh_X3_push rfl rfl rfl (by decide +kernel) ⟨Nat.le_of_ble_eq_true rfl, Nat.le_of_ble_eq_true rfl⟩) ⟨hx, hb, hml, hown, hts⟩ hK hP hD hS hA rfl rfl rfl [0, 1, 2, 3, 4, 5, 6, 7, 8] [] [0, 1, 2, 3, 4, 5, 6, 7, 8] (by decide) rfl (wr := []) rfl (by decide) (by decide) (by decide) rfl rfl hl.1 rfl (Nat.le_of_ble_eq_true rfl) dX3_executeHigh_152 ⟨Nat.zero_le _, Nat.zero_le _⟩ (fun H locs hP hD hS => ?_)
  refine lv_aload_n hx hb dX3_executeHigh_155 rfl (lv_at hl 1 rfl) ?_
  refine lv_bipush (v := 8) hx hb dX3_executeHigh_156 (by decide) ?_
  refine lv_iload_n hx hb dX3_executeHigh_158 rfl (lv_at hl 0 rfl) ?_
  refine lv_imul hx hb dX3_executeHigh_159 ?_
  refine pu_P_f1 (v := (8 : Int32) * ((p1 >>> ((3 : Int32) &&& 31)) &&& (7 : Int32))) hx hb hts hi3 hown hK hP hD hS (hts (.fieldLink RX3 28 "InvaderBoard$Processor" "pc" "I") (List.mem_cons_of_mem _ (List.mem_append_left _ (List.mem_append_left _ (List.mem_append_left _ (List.mem_append_left _ (List.mem_of_getElem? (i := 0) rfl))))))) dX3_executeHigh_160 (fun H locs hP hD hS => ?_)
  refine lv_iconst (v := 0) hx hb dX3_executeHigh_163 (by decide) ?_
  have hF : xExecuteHigh f a p1 = ((0 : Int32), upd f_19 1 ((8 : Int32) * ((p1 >>> ((3 : Int32) &&& 31)) &&& (7 : Int32))), a_19) := by
    unfold xExecuteHigh
    refine (if_neg c_1).trans ?_
    refine (if_neg c_3).trans ?_
    refine (if_neg c_5).trans ?_
    refine (if_neg c_6).trans ?_
    refine (if_neg c_8).trans ?_
    refine (if_neg c_10).trans ?_
    refine (if_neg c_16).trans ?_
    rewrite [hB_19]
    rfl
  rw [hF]
  exact KC.reti hx hb hr hlocks hK hP hD hS dX3_executeHigh_164 rfl
