def rCall (f : Nat → Int32) (a : Nat → Nat → Int32) (p1 : Int32) : Int32 × (Nat → Int32) × (Nat → Nat → Int32) :=
  (match rPush f a (f 1) with
  | (f_1, a_1) => ((17 : Int32), upd f_1 1 p1, a_1))
set_option maxHeartbeats 4000000 in
set_option maxRecDepth 100000 in
theorem kX5_call (l : Launch) (D : va_G) (cI : ClassId) (o : Nat → Nat) (f : Nat → Int32) (a : Nat → Nat → Int32) (p1 : Int32) : KC l yX5_call wsX5_call 2 [.ref (o 20), .int p1] D cI (wR cI o f a) (wR cI o ((rCall f a p1).2.1) ((rCall f a p1).2.2)) (some (.int (rCall f a p1).1)) := by
  refine KC.of (cc := cX5_call) (maxL := 2) (by decide) rfl (Nat.le_of_ble_eq_true rfl) ?_
  intro p e s m below meth c A hx hb hr hts hown hlocks hml hK hP hD hS hA ls hl
  have hl : lv_has ls 2 [(0, .ref (o 20)), (1, .int p1)] := hl
  have hown : s.vm.findClass RX5 = some m.cls := hown
  have hi5 : ∀ w ∈ u_ws RX5 TX5 24, w ∈ wsX5_call := fun w h => List.mem_cons_of_mem _ (List.mem_append_right _ h)
  refine lv_aload_n hx hb dX5_call_0 rfl (lv_at hl 0 rfl) ?_
  refine lv_aload_n hx hb dX5_call_1 rfl (lv_at hl 0 rfl) ?_
  refine va_get (ci := 5) (v := .int (f 1)) (C := RX5) (T := TX5) (N := 24) hx hb hts hi5 hown hK hP 0 rfl rfl 5 (by decide) (hts (.fieldLink RX5 33 "InvaderBoardModel" "pc" "I") (List.mem_cons_of_mem _ (List.mem_append_left _ (List.mem_of_getElem? (i := 0) rfl)))) (fun _ h9 => h9) rfl dX5_call_2 ?_
  obtain ⟨f_1, a_1, hB_1⟩ := k_ex2 (rPush f a (f 1))
  have kc_1 := kX5_push l D cI o f a (f 1)
  rw [hB_1] at kc_1; dsimp only at kc_1
  refine KC.callv (ci := 5) (rest := []) (wt := wR cI o f_1 a_1) (kc_1) (cwV 1 hts gX5_call_X5_push rfl rfl rfl (by decide +kernel) ⟨Nat.le_of_ble_eq_true rfl, Nat.le_of_ble_eq_true rfl⟩) ⟨hx, hb, hml, hown, hts⟩ hK hP hD hS hA rfl rfl rfl [0, 1, 2, 3, 4, 5, 6] [] [0, 1, 2, 3, 4, 5, 6] (by decide) rfl (wr := []) rfl (by decide) (by decide) (by decide) rfl rfl hl.1 rfl (Nat.le_of_ble_eq_true rfl) dX5_call_5 ⟨Nat.zero_le _, Nat.zero_le _⟩ (fun H locs hP hD hS => ?_)
  refine lv_aload_n hx hb dX5_call_8 rfl (lv_at hl 0 rfl) ?_
  refine lv_iload_n hx hb dX5_call_9 rfl (lv_at hl 1 rfl) ?_
  refine pu_R_f1 (v := p1) hx hb hts hi5 hown hK hP hD hS (hts (.fieldLink RX5 33 "InvaderBoardModel" "pc" "I") (List.mem_cons_of_mem _ (List.mem_append_left _ (List.mem_of_getElem? (i := 0) rfl)))) dX5_call_10 (fun H locs hP hD hS => ?_)
  refine lv_bipush (v := 17) hx hb dX5_call_13 (by decide) ?_
  have hF : rCall f a p1 = ((17 : Int32), upd f_1 1 p1, a_1) := by
    unfold rCall
    rewrite [hB_1]
    rfl
  rw [hF]
  exact KC.reti hx hb hr hlocks hK hP hD hS dX5_call_15 rfl
