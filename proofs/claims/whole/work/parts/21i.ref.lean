def rOdd (f : Nat → Int32) (a : Nat → Nat → Int32) (p1 : Int32) : Int32 × (Nat → Int32) :=
  if (4 : Int32) ≤ p1 then if p1 = (5 : Int32) then ((5 : Int32), upd f 1 (rHl f a))
    else ((5 : Int32), upd f 0 (rHl f a))
  else (match rPop f a with
    | (r_3, f_3) => ((10 : Int32), upd f_3 1 r_3))
set_option maxHeartbeats 4000000 in
set_option maxRecDepth 100000 in
theorem kX5_odd (l : Launch) (D : va_G) (cI : ClassId) (o : Nat → Nat) (f : Nat → Int32) (a : Nat → Nat → Int32) (p1 : Int32) : KC l yX5_odd wsX5_odd 2 [.ref (o 20), .int p1] D cI (wR cI o f a) (wR cI o ((rOdd f a p1).2) a) (some (.int (rOdd f a p1).1)) := by
  refine KC.of (cc := cX5_odd) (maxL := 2) (by decide) rfl (Nat.le_of_ble_eq_true rfl) ?_
  intro p e s m below meth c A hx hb hr hts hown hlocks hml hK hP hD hS hA ls hl
  have hl : lv_has ls 2 [(0, .ref (o 20)), (1, .int p1)] := hl
  have hown : s.vm.findClass RX5 = some m.cls := hown
  have hi5 : ∀ w ∈ u_ws RX5 TX5 24, w ∈ wsX5_odd := fun w h => List.mem_cons_of_mem _ (List.mem_append_right _ h)
  refine lv_iload_n hx hb dX5_odd_0 rfl (lv_at hl 1 rfl) ?_
  refine lv_iconst (v := 4) hx hb dX5_odd_1 (by decide) ?_
  refine lv_icmp_ge (tgt := 16) hx hb dX5_odd_2 (by decide) (fun c_1 => ?_) (fun c_1 => ?_)
  · refine lv_iload_n hx hb dX5_odd_16 rfl (lv_at hl 1 rfl) ?_
    refine lv_iconst (v := 5) hx hb dX5_odd_17 (by decide) ?_
    refine lv_icmp_ne (tgt := 32) hx hb dX5_odd_18 (by decide) (fun c_2 => ?_) (fun c_2 => ?_)
    · refine lv_aload_n hx hb dX5_odd_32 rfl (lv_at hl 0 rfl) ?_
      refine lv_aload_n hx hb dX5_odd_33 rfl (lv_at hl 0 rfl) ?_
      refine KC.calli (ci := 5) (rest := [.ref (o 20)]) (wt := wR cI o f a) (kX5_hl l D cI o f a) (cwV 0 hts gX5_odd_X5_hl rfl rfl rfl (by decide +kernel) ⟨Nat.le_of_ble_eq_true rfl, Nat.le_of_ble_eq_true rfl⟩) ⟨hx, hb, hml, hown, hts⟩ hK hP hD hS hA rfl rfl rfl [0, 1, 2, 3, 4, 5, 6] [] [0, 1, 2, 3, 4, 5, 6] (by decide) rfl (wr := []) rfl (by decide) (by decide) (by decide) rfl rfl hl.1 rfl (Nat.le_of_ble_eq_true rfl) dX5_odd_34 ⟨Nat.zero_le _, Nat.zero_le _⟩ (fun H locs hP hD hS => ?_)
      refine pu_R_f0 (v := rHl f a) hx hb hts hi5 hown hK hP hD hS (hts (.fieldLink RX5 44 "InvaderBoardModel" "sp" "I") (List.mem_cons_of_mem _ (List.mem_append_left _ (List.mem_of_getElem? (i := 1) rfl)))) dX5_odd_37 (fun H locs hP hD hS => ?_)
      refine lv_iconst (v := 5) hx hb dX5_odd_40 (by decide) ?_
      have hF : rOdd f a p1 = ((5 : Int32), upd f 0 (rHl f a)) := by
        unfold rOdd
        refine (if_pos c_1).trans ?_
        refine (if_neg c_2).trans ?_
        rfl
      rw [hF]
      exact KC.reti hx hb hr hlocks hK hP hD hS dX5_odd_41 rfl
    · refine lv_aload_n hx hb dX5_odd_21 rfl (lv_at hl 0 rfl) ?_
      refine lv_aload_n hx hb dX5_odd_22 rfl (lv_at hl 0 rfl) ?_
      refine KC.calli (ci := 5) (rest := [.ref (o 20)]) (wt := wR cI o f a) (kX5_hl l D cI o f a) (cwV 0 hts gX5_odd_X5_hl rfl rfl rfl (by decide +kernel) ⟨Nat.le_of_ble_eq_true rfl, Nat.le_of_ble_eq_true rfl⟩) ⟨hx, hb, hml, hown, hts⟩ hK hP hD hS hA rfl rfl rfl [0, 1, 2, 3, 4, 5, 6] [] [0, 1, 2, 3, 4, 5, 6] (by decide) rfl (wr := []) rfl (by decide) (by decide) (by decide) rfl rfl hl.1 rfl (Nat.le_of_ble_eq_true rfl) dX5_odd_23 ⟨Nat.zero_le _, Nat.zero_le _⟩ (fun H locs hP hD hS => ?_)
      refine pu_R_f1 (v := rHl f a) hx hb hts hi5 hown hK hP hD hS (hts (.fieldLink RX5 33 "InvaderBoardModel" "pc" "I") (List.mem_cons_of_mem _ (List.mem_append_left _ (List.mem_of_getElem? (i := 0) rfl)))) dX5_odd_26 (fun H locs hP hD hS => ?_)
      refine lv_goto (tgt := 40) hx hb dX5_odd_29 (by decide) ?_
      refine lv_iconst (v := 5) hx hb dX5_odd_40 (by decide) ?_
      have hF : rOdd f a p1 = ((5 : Int32), upd f 1 (rHl f a)) := by
        unfold rOdd
        refine (if_pos c_1).trans ?_
        refine (if_pos c_2).trans ?_
        rfl
      rw [hF]
      exact KC.reti hx hb hr hlocks hK hP hD hS dX5_odd_41 rfl
  · refine lv_aload_n hx hb dX5_odd_5 rfl (lv_at hl 0 rfl) ?_
    refine lv_aload_n hx hb dX5_odd_6 rfl (lv_at hl 0 rfl) ?_
    obtain ⟨r_3, f_3, hB_3⟩ := k_ex2 (rPop f a)
    have kc_3 := kX5_pop l D cI o f a
    rw [hB_3] at kc_3; dsimp only at kc_3
    refine KC.calli (ci := 5) (rest := [.ref (o 20)]) (wt := wR cI o f_3 a) (kc_3) (cwV 0 hts gX5_odd_X5_pop rfl rfl rfl (by decide +kernel) ⟨Nat.le_of_ble_eq_true rfl, Nat.le_of_ble_eq_true rfl⟩) ⟨hx, hb, hml, hown, hts⟩ hK hP hD hS hA rfl rfl rfl [0, 1, 2, 3, 4, 5, 6] [] [0, 1, 2, 3, 4, 5, 6] (by decide) rfl (wr := []) rfl (by decide) (by decide) (by decide) rfl rfl hl.1 rfl (Nat.le_of_ble_eq_true rfl) dX5_odd_7 ⟨Nat.zero_le _, Nat.zero_le _⟩ (fun H locs hP hD hS => ?_)
    refine pu_R_f1 (v := r_3) hx hb hts hi5 hown hK hP hD hS (hts (.fieldLink RX5 33 "InvaderBoardModel" "pc" "I") (List.mem_cons_of_mem _ (List.mem_append_left _ (List.mem_of_getElem? (i := 0) rfl)))) dX5_odd_10 (fun H locs hP hD hS => ?_)
    refine lv_bipush (v := 10) hx hb dX5_odd_13 (by decide) ?_
    have hF : rOdd f a p1 = ((10 : Int32), upd f_3 1 r_3) := by
      unfold rOdd
      refine (if_neg c_1).trans ?_
      rewrite [hB_3]
      rfl
    rw [hF]
    exact KC.reti hx hb hr hlocks hK hP hD hS dX5_odd_15 rfl
