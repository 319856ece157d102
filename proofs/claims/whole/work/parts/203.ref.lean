def rGet (f : Nat → Int32) (a : Nat → Nat → Int32) (p1 : Int32) : Int32 :=
  if p1 = (6 : Int32) then rRead f a (rHl f a)
  else (a 2) p1.toNatClampNeg
set_option maxHeartbeats 4000000 in
set_option maxRecDepth 100000 in
theorem kX5_get (l : Launch) (D : va_G) (cI : ClassId) (o : Nat → Nat) (f : Nat → Int32) (a : Nat → Nat → Int32) (p1 : Int32) (h1 : vp_in p1 8) : KC l yX5_get wsX5_get 1 [.ref (o 20), .int p1] D cI (wR cI o f a) (wR cI o f a) (some (.int (rGet f a p1))) := by
  refine KC.of (cc := cX5_get) (maxL := 2) (by decide) rfl (Nat.le_of_ble_eq_true rfl) ?_
  intro p e s m below meth c A hx hb hr hts hown hlocks hml hK hP hD hS hA ls hl
  have hl : lv_has ls 2 [(0, .ref (o 20)), (1, .int p1)] := hl
  have hown : s.vm.findClass RX5 = some m.cls := hown
  have hi5 : ∀ w ∈ u_ws RX5 TX5 24, w ∈ wsX5_get := fun w h => List.mem_cons_of_mem _ (List.mem_append_right _ h)
  refine lv_iload_n hx hb dX5_get_0 rfl (lv_at hl 1 rfl) ?_
  refine lv_bipush (v := 6) hx hb dX5_get_1 (by decide) ?_
  refine lv_icmp_ne (tgt := 17) hx hb dX5_get_3 (by decide) (fun c_1 => ?_) (fun c_1 => ?_)
  · refine lv_aload_n hx hb dX5_get_17 rfl (lv_at hl 0 rfl) ?_
    refine va_get (ci := 5) (v := .ref (o 23)) (C := RX5) (T := TX5) (N := 24) hx hb hts hi5 hown hK hP 0 rfl rfl 3 (by decide) (hts (.fieldLink RX5 16 "InvaderBoardModel" "reg" "[I") (List.mem_cons_of_mem _ (List.mem_append_left _ (List.mem_of_getElem? (i := 0) rfl)))) (fun _ h9 => h9) rfl dX5_get_18 ?_
    refine lv_iload_n hx hb dX5_get_21 rfl (lv_at hl 1 rfl) ?_
    refine va_iald (f := a 2) hx hb hK hP 3 0 rfl rfl h1 dX5_get_22 ?_
    have hF : rGet f a p1 = (a 2) p1.toNatClampNeg := by
      unfold rGet
      refine (if_neg c_1).trans ?_
      rfl
    rw [hF]
    exact KC.reti hx hb hr hlocks hK hP hD hS dX5_get_23 rfl
  · refine lv_aload_n hx hb dX5_get_6 rfl (lv_at hl 0 rfl) ?_
    refine lv_aload_n hx hb dX5_get_7 rfl (lv_at hl 0 rfl) ?_
    refine KC.calli (ci := 5) (rest := [.ref (o 20)]) (wt := wR cI o f a) (kX5_hl l D cI o f a) (cwV 0 hts gX5_get_X5_hl rfl rfl rfl (by decide +kernel) ⟨Nat.le_of_ble_eq_true rfl, Nat.le_of_ble_eq_true rfl⟩) ⟨hx, hb, hml, hown, hts⟩ hK hP hD hS hA rfl rfl rfl [0, 1, 2, 3, 4, 5, 6] [] [0, 1, 2, 3, 4, 5, 6] (by decide) rfl (wr := []) rfl (by decide) (by decide) (by decide) rfl rfl hl.1 rfl (Nat.le_of_ble_eq_true rfl) dX5_get_8 ⟨Nat.zero_le _, Nat.zero_le _⟩ (fun H locs hP hD hS => ?_)
    refine KC.calli (ci := 5) (rest := []) (wt := wR cI o f a) (kX5_read l D cI o f a (rHl f a)) (cwV 1 hts gX5_get_X5_read rfl rfl rfl (by decide +kernel) ⟨Nat.le_of_ble_eq_true rfl, Nat.le_of_ble_eq_true rfl⟩) ⟨hx, hb, hml, hown, hts⟩ hK hP hD hS hA rfl rfl rfl [0, 1, 2, 3, 4, 5, 6] [] [0, 1, 2, 3, 4, 5, 6] (by decide) rfl (wr := []) rfl (by decide) (by decide) (by decide) rfl rfl hl.1 rfl (Nat.le_of_ble_eq_true rfl) dX5_get_11 ⟨Nat.zero_le _, Nat.zero_le _⟩ (fun H locs hP hD hS => ?_)
    refine lv_goto (tgt := 23) hx hb dX5_get_14 (by decide) ?_
    have hF : rGet f a p1 = rRead f a (rHl f a) := by
      unfold rGet
      refine (if_pos c_1).trans ?_
      rfl
    rw [hF]
    exact KC.reti hx hb hr hlocks hK hP hD hS dX5_get_23 rfl
def rSet (f : Nat → Int32) (a : Nat → Nat → Int32) (p1 : Int32) (p2 : Int32) : (Nat → Nat → Int32) :=
  if p1 = (6 : Int32) then ua a 1 (rWrite f a (rHl f a) p2)
  else ua a 2 (upd (a 2) p1.toNatClampNeg (p2 &&& (255 : Int32)))
set_option maxHeartbeats 4000000 in
set_option maxRecDepth 100000 in
theorem kX5_set (l : Launch) (D : va_G) (cI : ClassId) (o : Nat → Nat) (f : Nat → Int32) (a : Nat → Nat → Int32) (p1 : Int32) (p2 : Int32) (h1 : vp_in p1 8) : KC l yX5_set wsX5_set 1 [.ref (o 20), .int p1, .int p2] D cI (wR cI o f a) (wR cI o f (rSet f a p1 p2)) none := by
  refine KC.of (cc := cX5_set) (maxL := 3) (by decide) rfl (Nat.le_of_ble_eq_true rfl) ?_
  intro p e s m below meth c A hx hb hr hts hown hlocks hml hK hP hD hS hA ls hl
  have hl : lv_has ls 3 [(0, .ref (o 20)), (1, .int p1), (2, .int p2)] := hl
  have hown : s.vm.findClass RX5 = some m.cls := hown
  have hi5 : ∀ w ∈ u_ws RX5 TX5 24, w ∈ wsX5_set := fun w h => List.mem_cons_of_mem _ (List.mem_append_right _ h)
  refine lv_iload_n hx hb dX5_set_0 rfl (lv_at hl 1 rfl) ?_
  refine lv_bipush (v := 6) hx hb dX5_set_1 (by decide) ?_
  refine lv_icmp_ne (tgt := 18) hx hb dX5_set_3 (by decide) (fun c_1 => ?_) (fun c_1 => ?_)
  · refine lv_aload_n hx hb dX5_set_18 rfl (lv_at hl 0 rfl) ?_
    refine va_get (ci := 5) (v := .ref (o 23)) (C := RX5) (T := TX5) (N := 24) hx hb hts hi5 hown hK hP 0 rfl rfl 3 (by decide) (hts (.fieldLink RX5 16 "InvaderBoardModel" "reg" "[I") (List.mem_cons_of_mem _ (List.mem_append_left _ (List.mem_of_getElem? (i := 0) rfl)))) (fun _ h9 => h9) rfl dX5_set_19 ?_
    refine lv_iload_n hx hb dX5_set_22 rfl (lv_at hl 1 rfl) ?_
    refine lv_iload_n hx hb dX5_set_23 rfl (lv_at hl 2 rfl) ?_
    refine lv_sipush (v := 255) hx hb dX5_set_24 (by decide) ?_
    refine lv_iand hx hb dX5_set_27 ?_
    refine pu_R_a2 hx hb hK hP hD hS h1 dX5_set_28 (fun H locs hP hD hS => ?_)
    have hF : rSet f a p1 p2 = ua a 2 (upd (a 2) p1.toNatClampNeg (p2 &&& (255 : Int32))) := by
      unfold rSet
      refine (if_neg c_1).trans ?_
      rfl
    rw [hF]
    exact KC.retv hx hb hr hlocks hK hP hD hS dX5_set_29
  · refine lv_aload_n hx hb dX5_set_6 rfl (lv_at hl 0 rfl) ?_
    refine lv_aload_n hx hb dX5_set_7 rfl (lv_at hl 0 rfl) ?_
    refine KC.calli (ci := 5) (rest := [.ref (o 20)]) (wt := wR cI o f a) (kX5_hl l D cI o f a) (cwV 0 hts gX5_set_X5_hl rfl rfl rfl (by decide +kernel) ⟨Nat.le_of_ble_eq_true rfl, Nat.le_of_ble_eq_true rfl⟩) ⟨hx, hb, hml, hown, hts⟩ hK hP hD hS hA rfl rfl rfl [0, 1, 2, 3, 4, 5, 6] [] [0, 1, 2, 3, 4, 5, 6] (by decide) rfl (wr := []) rfl (by decide) (by decide) (by decide) rfl rfl hl.1 rfl (Nat.le_of_ble_eq_true rfl) dX5_set_8 ⟨Nat.zero_le _, Nat.zero_le _⟩ (fun H locs hP hD hS => ?_)
    refine lv_iload_n hx hb dX5_set_11 rfl (lv_at hl 2 rfl) ?_
    refine KC.callv (ci := 5) (rest := []) (wt := wR cI o f (ua a 1 (rWrite f a (rHl f a) p2))) (kX5_write l D cI o f a (rHl f a) p2) (cwV 2 hts gX5_set_X5_write rfl rfl rfl (by decide +kernel) ⟨Nat.le_of_ble_eq_true rfl, Nat.le_of_ble_eq_true rfl⟩) ⟨hx, hb, hml, hown, hts⟩ hK hP hD hS hA rfl rfl rfl [0, 1, 2, 3, 4, 5, 6] [] [0, 1, 2, 3, 4, 5, 6] (by decide) rfl (wr := []) rfl (by decide) (by decide) (by decide) rfl rfl hl.1 rfl (Nat.le_of_ble_eq_true rfl) dX5_set_12 ⟨Nat.zero_le _, Nat.zero_le _⟩ (fun H locs hP hD hS => ?_)
    refine lv_goto (tgt := 29) hx hb dX5_set_15 (by decide) ?_
    have hF : rSet f a p1 p2 = ua a 1 (rWrite f a (rHl f a) p2) := by
      unfold rSet
      refine (if_pos c_1).trans ?_
      rfl
    rw [hF]
    exact KC.retv hx hb hr hlocks hK hP hD hS dX5_set_29
def rPair (f : Nat → Int32) (a : Nat → Nat → Int32) (p1 : Int32) : Int32 :=
  if p1 = (3 : Int32) then f 0
  else (((a 2) ((2 : Int32) * p1).toNatClampNeg) <<< ((8 : Int32) &&& 31)) ||| ((a 2) (((2 : Int32) * p1) + (1 : Int32)).toNatClampNeg)
set_option maxHeartbeats 4000000 in
set_option maxRecDepth 100000 in
theorem kX5_pair (l : Launch) (D : va_G) (cI : ClassId) (o : Nat → Nat) (f : Nat → Int32) (a : Nat → Nat → Int32) (p1 : Int32) (h1 : vp_in p1 4) : KC l yX5_pair wsX5_pair 0 [.ref (o 20), .int p1] D cI (wR cI o f a) (wR cI o f a) (some (.int (rPair f a p1))) := by
  refine KC.of (cc := cX5_pair) (maxL := 2) (by decide) rfl (Nat.le_of_ble_eq_true rfl) ?_
  intro p e s m below meth c A hx hb hr hts hown hlocks hml hK hP hD hS hA ls hl
  have hl : lv_has ls 2 [(0, .ref (o 20)), (1, .int p1)] := hl
  have hown : s.vm.findClass RX5 = some m.cls := hown
  have hi5 : ∀ w ∈ u_ws RX5 TX5 24, w ∈ wsX5_pair := fun w h => List.mem_cons_of_mem _ (List.mem_append_right _ h)
  refine lv_iload_n hx hb dX5_pair_0 rfl (lv_at hl 1 rfl) ?_
  refine lv_iconst (v := 3) hx hb dX5_pair_1 (by decide) ?_
  refine lv_icmp_ne (tgt := 12) hx hb dX5_pair_2 (by decide) (fun c_1 => ?_) (fun c_1 => ?_)
  · refine lv_aload_n hx hb dX5_pair_12 rfl (lv_at hl 0 rfl) ?_
    refine va_get (ci := 5) (v := .ref (o 23)) (C := RX5) (T := TX5) (N := 24) hx hb hts hi5 hown hK hP 0 rfl rfl 3 (by decide) (hts (.fieldLink RX5 16 "InvaderBoardModel" "reg" "[I") (List.mem_cons_of_mem _ (List.mem_append_left _ (List.mem_of_getElem? (i := 1) rfl)))) (fun _ h9 => h9) rfl dX5_pair_13 ?_
    refine lv_iconst (v := 2) hx hb dX5_pair_16 (by decide) ?_
    refine lv_iload_n hx hb dX5_pair_17 rfl (lv_at hl 1 rfl) ?_
    refine lv_imul hx hb dX5_pair_18 ?_
    refine va_iald (f := a 2) hx hb hK hP 3 0 rfl rfl (xin_p2 h1 c_1) dX5_pair_19 ?_
    refine lv_bipush (v := 8) hx hb dX5_pair_20 (by decide) ?_
    refine lv_ishl hx hb dX5_pair_22 ?_
    refine lv_aload_n hx hb dX5_pair_23 rfl (lv_at hl 0 rfl) ?_
    refine va_get (ci := 5) (v := .ref (o 23)) (C := RX5) (T := TX5) (N := 24) hx hb hts hi5 hown hK hP 0 rfl rfl 3 (by decide) (hts (.fieldLink RX5 16 "InvaderBoardModel" "reg" "[I") (List.mem_cons_of_mem _ (List.mem_append_left _ (List.mem_of_getElem? (i := 1) rfl)))) (fun _ h9 => h9) rfl dX5_pair_24 ?_
    refine lv_iconst (v := 2) hx hb dX5_pair_27 (by decide) ?_
    refine lv_iload_n hx hb dX5_pair_28 rfl (lv_at hl 1 rfl) ?_
    refine lv_imul hx hb dX5_pair_29 ?_
    refine lv_iconst (v := 1) hx hb dX5_pair_30 (by decide) ?_
    refine lv_iadd hx hb dX5_pair_31 ?_
    refine va_iald (f := a 2) hx hb hK hP 3 0 rfl rfl (xin_p21 h1 c_1) dX5_pair_32 ?_
    refine lv_ior hx hb dX5_pair_33 ?_
    have hF : rPair f a p1 = (((a 2) ((2 : Int32) * p1).toNatClampNeg) <<< ((8 : Int32) &&& 31)) ||| ((a 2) (((2 : Int32) * p1) + (1 : Int32)).toNatClampNeg) := by
      unfold rPair
      refine (if_neg c_1).trans ?_
      rfl
    rw [hF]
    exact KC.reti hx hb hr hlocks hK hP hD hS dX5_pair_34 rfl
  · refine lv_aload_n hx hb dX5_pair_5 rfl (lv_at hl 0 rfl) ?_
    refine va_get (ci := 5) (v := .int (f 0)) (C := RX5) (T := TX5) (N := 24) hx hb hts hi5 hown hK hP 0 rfl rfl 4 (by decide) (hts (.fieldLink RX5 44 "InvaderBoardModel" "sp" "I") (List.mem_cons_of_mem _ (List.mem_append_left _ (List.mem_of_getElem? (i := 0) rfl)))) (fun _ h9 => h9) rfl dX5_pair_6 ?_
    refine lv_goto (tgt := 34) hx hb dX5_pair_9 (by decide) ?_
    have hF : rPair f a p1 = f 0 := by
      unfold rPair
      refine (if_pos c_1).trans ?_
      rfl
    rw [hF]
    exact KC.reti hx hb hr hlocks hK hP hD hS dX5_pair_34 rfl
def rSetPair (f : Nat → Int32) (a : Nat → Nat → Int32) (p1 : Int32) (p2 : Int32) : (Nat → Int32) × (Nat → Nat → Int32) :=
  if p1 = (3 : Int32) then (upd f 0 (p2 &&& (65535 : Int32)), a)
  else (f, ua (ua a 2 (upd (a 2) ((2 : Int32) * p1).toNatClampNeg ((p2 >>> ((8 : Int32) &&& 31)) &&& (255 : Int32)))) 2 (upd (upd (a 2) ((2 : Int32) * p1).toNatClampNeg ((p2 >>> ((8 : Int32) &&& 31)) &&& (255 : Int32))) (((2 : Int32) * p1) + (1 : Int32)).toNatClampNeg (p2 &&& (255 : Int32))))
set_option maxHeartbeats 4000000 in
set_option maxRecDepth 100000 in
theorem kX5_setPair (l : Launch) (D : va_G) (cI : ClassId) (o : Nat → Nat) (f : Nat → Int32) (a : Nat → Nat → Int32) (p1 : Int32) (p2 : Int32) (h1 : vp_in p1 4) : KC l yX5_setPair wsX5_setPair 0 [.ref (o 20), .int p1, .int p2] D cI (wR cI o f a) (wR cI o ((rSetPair f a p1 p2).1) ((rSetPair f a p1 p2).2)) none := by
  refine KC.of (cc := cX5_setPair) (maxL := 3) (by decide) rfl (Nat.le_of_ble_eq_true rfl) ?_
  intro p e s m below meth c A hx hb hr hts hown hlocks hml hK hP hD hS hA ls hl
  have hl : lv_has ls 3 [(0, .ref (o 20)), (1, .int p1), (2, .int p2)] := hl
  have hown : s.vm.findClass RX5 = some m.cls := hown
  have hi5 : ∀ w ∈ u_ws RX5 TX5 24, w ∈ wsX5_setPair := fun w h => List.mem_cons_of_mem _ (List.mem_append_right _ h)
  refine lv_iload_n hx hb dX5_setPair_0 rfl (lv_at hl 1 rfl) ?_
  refine lv_iconst (v := 3) hx hb dX5_setPair_1 (by decide) ?_
  refine lv_icmp_ne (tgt := 16) hx hb dX5_setPair_2 (by decide) (fun c_1 => ?_) (fun c_1 => ?_)
  · refine lv_aload_n hx hb dX5_setPair_16 rfl (lv_at hl 0 rfl) ?_
    refine va_get (ci := 5) (v := .ref (o 23)) (C := RX5) (T := TX5) (N := 24) hx hb hts hi5 hown hK hP 0 rfl rfl 3 (by decide) (hts (.fieldLink RX5 16 "InvaderBoardModel" "reg" "[I") (List.mem_cons_of_mem _ (List.mem_append_left _ (List.mem_of_getElem? (i := 2) rfl)))) (fun _ h9 => h9) rfl dX5_setPair_17 ?_
    refine lv_iconst (v := 2) hx hb dX5_setPair_20 (by decide) ?_
    refine lv_iload_n hx hb dX5_setPair_21 rfl (lv_at hl 1 rfl) ?_
    refine lv_imul hx hb dX5_setPair_22 ?_
    refine lv_iload_n hx hb dX5_setPair_23 rfl (lv_at hl 2 rfl) ?_
    refine lv_bipush (v := 8) hx hb dX5_setPair_24 (by decide) ?_
    refine lv_ishr hx hb dX5_setPair_26 ?_
    refine lv_sipush (v := 255) hx hb dX5_setPair_27 (by decide) ?_
    refine lv_iand hx hb dX5_setPair_30 ?_
    refine pu_R_a2 hx hb hK hP hD hS (xin_p2 h1 c_1) dX5_setPair_31 (fun H locs hP hD hS => ?_)
    refine lv_aload_n hx hb dX5_setPair_32 rfl (lv_at hl 0 rfl) ?_
    refine va_get (ci := 5) (v := .ref (o 23)) (C := RX5) (T := TX5) (N := 24) hx hb hts hi5 hown hK hP 0 rfl rfl 3 (by decide) (hts (.fieldLink RX5 16 "InvaderBoardModel" "reg" "[I") (List.mem_cons_of_mem _ (List.mem_append_left _ (List.mem_of_getElem? (i := 2) rfl)))) (fun _ h9 => h9) rfl dX5_setPair_33 ?_
    refine lv_iconst (v := 2) hx hb dX5_setPair_36 (by decide) ?_
    refine lv_iload_n hx hb dX5_setPair_37 rfl (lv_at hl 1 rfl) ?_
    refine lv_imul hx hb dX5_setPair_38 ?_
    refine lv_iconst (v := 1) hx hb dX5_setPair_39 (by decide) ?_
    refine lv_iadd hx hb dX5_setPair_40 ?_
    refine lv_iload_n hx hb dX5_setPair_41 rfl (lv_at hl 2 rfl) ?_
    refine lv_sipush (v := 255) hx hb dX5_setPair_42 (by decide) ?_
    refine lv_iand hx hb dX5_setPair_45 ?_
    refine pu_R_a2 hx hb hK hP hD hS (xin_p21 h1 c_1) dX5_setPair_46 (fun H locs hP hD hS => ?_)
    have hP : va_P D vwCl (wR cI o f (ua (ua a 2 (upd (a 2) ((2 : Int32) * p1).toNatClampNeg ((p2 >>> ((8 : Int32) &&& 31)) &&& (255 : Int32)))) 2 (upd (upd (a 2) ((2 : Int32) * p1).toNatClampNeg ((p2 >>> ((8 : Int32) &&& 31)) &&& (255 : Int32))) (((2 : Int32) * p1) + (1 : Int32)).toNatClampNeg (p2 &&& (255 : Int32))))) H := hP
    have hD : va_D A (wR cI o f (ua (ua a 2 (upd (a 2) ((2 : Int32) * p1).toNatClampNeg ((p2 >>> ((8 : Int32) &&& 31)) &&& (255 : Int32)))) 2 (upd (upd (a 2) ((2 : Int32) * p1).toNatClampNeg ((p2 >>> ((8 : Int32) &&& 31)) &&& (255 : Int32))) (((2 : Int32) * p1) + (1 : Int32)).toNatClampNeg (p2 &&& (255 : Int32))))) := hD
    have hF : rSetPair f a p1 p2 = (f, ua (ua a 2 (upd (a 2) ((2 : Int32) * p1).toNatClampNeg ((p2 >>> ((8 : Int32) &&& 31)) &&& (255 : Int32)))) 2 (upd (upd (a 2) ((2 : Int32) * p1).toNatClampNeg ((p2 >>> ((8 : Int32) &&& 31)) &&& (255 : Int32))) (((2 : Int32) * p1) + (1 : Int32)).toNatClampNeg (p2 &&& (255 : Int32)))) := by
      unfold rSetPair
      refine (if_neg c_1).trans ?_
      rfl
    rw [hF]
    exact KC.retv hx hb hr hlocks hK hP hD hS dX5_setPair_47
  · refine lv_aload_n hx hb dX5_setPair_5 rfl (lv_at hl 0 rfl) ?_
    refine lv_iload_n hx hb dX5_setPair_6 rfl (lv_at hl 2 rfl) ?_
    refine lv_ldc (v := 65535) hx hb hown (hts (.constant RX5 32 65535) (List.mem_cons_of_mem _ (List.mem_append_left _ (List.mem_of_getElem? (i := 0) rfl)))) dX5_setPair_7 ?_
    refine lv_iand hx hb dX5_setPair_9 ?_
    refine pu_R_f0 (v := p2 &&& (65535 : Int32)) hx hb hts hi5 hown hK hP hD hS (hts (.fieldLink RX5 44 "InvaderBoardModel" "sp" "I") (List.mem_cons_of_mem _ (List.mem_append_left _ (List.mem_of_getElem? (i := 1) rfl)))) dX5_setPair_10 (fun H locs hP hD hS => ?_)
    refine lv_goto (tgt := 47) hx hb dX5_setPair_13 (by decide) ?_
    have hF : rSetPair f a p1 p2 = (upd f 0 (p2 &&& (65535 : Int32)), a) := by
      unfold rSetPair
      refine (if_pos c_1).trans ?_
      rfl
    rw [hF]
    exact KC.retv hx hb hr hlocks hK hP hD hS dX5_setPair_47
