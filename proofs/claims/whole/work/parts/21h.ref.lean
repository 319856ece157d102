def rPopped (f : Nat → Int32) (a : Nat → Nat → Int32) (p1 : Int32) : Int32 × (Nat → Int32) × (Nat → Nat → Int32) :=
  (match rPop f a with
  | (r_1, f_1) => if p1 = (3 : Int32) then ((10 : Int32), rSetFlags f_1 (ua a 2 (upd (a 2) (7 : Int32).toNatClampNeg (r_1 >>> ((8 : Int32) &&& 31)))) r_1, ua a 2 (upd (a 2) (7 : Int32).toNatClampNeg (r_1 >>> ((8 : Int32) &&& 31))))
    else (match rSetPair f_1 a p1 r_1 with
      | (f_3, a_3) => ((10 : Int32), f_3, a_3)))
set_option maxHeartbeats 4000000 in
set_option maxRecDepth 100000 in
theorem kX5_popped (l : Launch) (D : va_G) (cI : ClassId) (o : Nat → Nat) (f : Nat → Int32) (a : Nat → Nat → Int32) (p1 : Int32) (h1 : vp_in p1 4) : KC l yX5_popped wsX5_popped 2 [.ref (o 20), .int p1] D cI (wR cI o f a) (wR cI o ((rPopped f a p1).2.1) ((rPopped f a p1).2.2)) (some (.int (rPopped f a p1).1)) := by
  refine KC.of (cc := cX5_popped) (maxL := 3) (by decide) rfl (Nat.le_of_ble_eq_true rfl) ?_
  intro p e s m below meth c A hx hb hr hts hown hlocks hml hK hP hD hS hA ls hl
  have hl : lv_has ls 3 [(0, .ref (o 20)), (1, .int p1)] := hl
  have hown : s.vm.findClass RX5 = some m.cls := hown
  have hi5 : ∀ w ∈ u_ws RX5 TX5 24, w ∈ wsX5_popped := fun w h => List.mem_cons_of_mem _ (List.mem_append_right _ h)
  refine lv_aload_n hx hb dX5_popped_0 rfl (lv_at hl 0 rfl) ?_
  obtain ⟨r_1, f_1, hB_1⟩ := k_ex2 (rPop f a)
  have kc_1 := kX5_pop l D cI o f a
  rw [hB_1] at kc_1; dsimp only at kc_1
  refine KC.calli (ci := 5) (rest := []) (wt := wR cI o f_1 a) (kc_1) (cwV 0 hts gX5_popped_X5_pop rfl rfl rfl (by decide +kernel) ⟨Nat.le_of_ble_eq_true rfl, Nat.le_of_ble_eq_true rfl⟩) ⟨hx, hb, hml, hown, hts⟩ hK hP hD hS hA rfl rfl rfl [0, 1, 2, 3, 4, 5, 6] [] [0, 1, 2, 3, 4, 5, 6] (by decide) rfl (wr := []) rfl (by decide) (by decide) (by decide) rfl rfl hl.1 rfl (Nat.le_of_ble_eq_true rfl) dX5_popped_1 ⟨Nat.zero_le _, Nat.zero_le _⟩ (fun H locs hP hD hS => ?_)
  refine lv_istore_n (lv' := [(2, .int _), (0, .ref _), (1, .int _)]) hx hb dX5_popped_4 rfl hl (by decide) rfl (fun ls hl => ?_)
  refine lv_iload_n hx hb dX5_popped_5 rfl (lv_at hl 2 rfl) ?_
  refine lv_iconst (v := 3) hx hb dX5_popped_6 (by decide) ?_
  refine lv_icmp_ne (tgt := 29) hx hb dX5_popped_7 (by decide) (fun c_2 => ?_) (fun c_2 => ?_)
  · refine lv_aload_n hx hb dX5_popped_29 rfl (lv_at hl 1 rfl) ?_
    refine lv_iload_n hx hb dX5_popped_30 rfl (lv_at hl 2 rfl) ?_
    refine lv_iload_n hx hb dX5_popped_31 rfl (lv_at hl 0 rfl) ?_
    obtain ⟨f_3, a_3, hB_3⟩ := k_ex2 (rSetPair f_1 a p1 r_1)
    have kc_3 := kX5_setPair l D cI o f_1 a p1 r_1 h1
    rw [hB_3] at kc_3; dsimp only at kc_3
    refine KC.callv (ci := 5) (rest := []) (wt := wR cI o f_3 a_3) (kc_3) (cwV 2 hts gX5_popped_X5_setPair rfl rfl rfl (by decide +kernel) ⟨Nat.le_of_ble_eq_true rfl, Nat.le_of_ble_eq_true rfl⟩) ⟨hx, hb, hml, hown, hts⟩ hK hP hD hS hA rfl rfl rfl [0, 1, 2, 3, 4, 5, 6] [] [0, 1, 2, 3, 4, 5, 6] (by decide) rfl (wr := []) rfl (by decide) (by decide) (by decide) rfl rfl hl.1 rfl (Nat.le_of_ble_eq_true rfl) dX5_popped_32 ⟨Nat.zero_le _, Nat.zero_le _⟩ (fun H locs hP hD hS => ?_)
    refine lv_bipush (v := 10) hx hb dX5_popped_35 (by decide) ?_
    have hF : rPopped f a p1 = ((10 : Int32), f_3, a_3) := by
      unfold rPopped
      rewrite [hB_1]
      dsimp only
      refine (if_neg c_2).trans ?_
      rewrite [hB_3]
      rfl
    rw [hF]
    exact KC.reti hx hb hr hlocks hK hP hD hS dX5_popped_37 rfl
  · refine lv_aload_n hx hb dX5_popped_10 rfl (lv_at hl 1 rfl) ?_
    refine va_get (ci := 5) (v := .ref (o 23)) (C := RX5) (T := TX5) (N := 24) hx hb hts hi5 hown hK hP 0 rfl rfl 3 (by decide) (hts (.fieldLink RX5 16 "InvaderBoardModel" "reg" "[I") (List.mem_cons_of_mem _ (List.mem_append_left _ (List.mem_append_left _ (List.mem_of_getElem? (i := 0) rfl))))) (fun _ h9 => h9) rfl dX5_popped_11 ?_
    refine lv_bipush (v := 7) hx hb dX5_popped_14 (by decide) ?_
    refine lv_iload_n hx hb dX5_popped_16 rfl (lv_at hl 0 rfl) ?_
    refine lv_bipush (v := 8) hx hb dX5_popped_17 (by decide) ?_
    refine lv_ishr hx hb dX5_popped_19 ?_
    refine pu_R_a2 hx hb hK hP hD hS (by unfold vp_in; decide) dX5_popped_20 (fun H locs hP hD hS => ?_)
    refine lv_aload_n hx hb dX5_popped_21 rfl (lv_at hl 1 rfl) ?_
    refine lv_iload_n hx hb dX5_popped_22 rfl (lv_at hl 0 rfl) ?_
    refine KC.callv (ci := 5) (rest := []) (wt := wR cI o (rSetFlags f_1 (ua a 2 (upd (a 2) (7 : Int32).toNatClampNeg (r_1 >>> ((8 : Int32) &&& 31)))) r_1) (ua a 2 (upd (a 2) (7 : Int32).toNatClampNeg (r_1 >>> ((8 : Int32) &&& 31))))) (kX5_setFlags l D cI o f_1 (ua a 2 (upd (a 2) (7 : Int32).toNatClampNeg (r_1 >>> ((8 : Int32) &&& 31)))) r_1) (cwV 1 hts gX5_popped_X5_setFlags rfl rfl rfl (by decide +kernel) ⟨Nat.le_of_ble_eq_true rfl, Nat.le_of_ble_eq_true rfl⟩) ⟨hx, hb, hml, hown, hts⟩ hK hP hD hS hA rfl rfl rfl [0, 1, 2, 3, 4, 5, 6] [] [0, 1, 2, 3, 4, 5, 6] (by decide) rfl (wr := []) rfl (by decide) (by decide) (by decide) rfl rfl hl.1 rfl (Nat.le_of_ble_eq_true rfl) dX5_popped_23 ⟨Nat.zero_le _, Nat.zero_le _⟩ (fun H locs hP hD hS => ?_)
    refine lv_goto (tgt := 35) hx hb dX5_popped_26 (by decide) ?_
    refine lv_bipush (v := 10) hx hb dX5_popped_35 (by decide) ?_
    have hF : rPopped f a p1 = ((10 : Int32), rSetFlags f_1 (ua a 2 (upd (a 2) (7 : Int32).toNatClampNeg (r_1 >>> ((8 : Int32) &&& 31)))) r_1, ua a 2 (upd (a 2) (7 : Int32).toNatClampNeg (r_1 >>> ((8 : Int32) &&& 31)))) := by
      unfold rPopped
      rewrite [hB_1]
      dsimp only
      refine (if_pos c_2).trans ?_
      rfl
    rw [hF]
    exact KC.reti hx hb hr hlocks hK hP hD hS dX5_popped_37 rfl
