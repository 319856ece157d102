def xRead (a : Nat → Nat → Int32) (p1 : Int32) : Int32 :=
  if p1 &&& (8192 : Int32) = 0 then if (2048 : Int32) ≤ (p1 &&& (65535 : Int32)) then (0 : Int32)
    else (a 0) (p1 &&& (65535 : Int32)).toNatClampNeg
  else (a 1) (p1 &&& (8191 : Int32)).toNatClampNeg
set_option maxHeartbeats 4000000 in
set_option maxRecDepth 100000 in
theorem kX1_read (l : Launch) (D : va_G) (cI : ClassId) (o : Nat → Nat) (a : Nat → Nat → Int32) (p1 : Int32) : KC l yX1_read wsX1_read 0 [.ref (o 2), .int p1] D cI (wM cI o a) (wM cI o a) (some (.int (xRead a p1))) := by
  refine KC.of (cc := cX1_read) (maxL := 3) (by decide) rfl (Nat.le_of_ble_eq_true rfl) ?_
  intro p e s m below meth c A hx hb hr hts hown hlocks hml hK hP hD hS hA ls hl
  have hl : lv_has ls 3 [(0, .ref (o 2)), (1, .int p1)] := hl
  have hown : s.vm.findClass RX1 = some m.cls := hown
  have hi1 : ∀ w ∈ u_ws RX1 TX1 2, w ∈ wsX1_read := fun w h => List.mem_cons_of_mem _ (List.mem_append_right _ h)
  refine lv_iload_n hx hb dX1_read_0 rfl (lv_at hl 1 rfl) ?_
  refine lv_sipush (v := 8192) hx hb dX1_read_1 (by decide) ?_
  refine lv_iand hx hb dX1_read_4 ?_
  refine lv_if_eq (tgt := 19) hx hb dX1_read_5 (by decide) (fun c_1 => ?_) (fun c_1 => ?_)
  · refine lv_iload_n hx hb dX1_read_19 rfl (lv_at hl 1 rfl) ?_
    refine lv_ldc (v := 65535) hx hb hown (hts (.constant RX1 16 65535) (List.mem_cons_of_mem _ (List.mem_append_left _ (List.mem_of_getElem? (i := 1) rfl)))) dX1_read_20 ?_
    refine lv_iand hx hb dX1_read_22 ?_
    refine lv_istore_n (lv' := [(2, .int _), (0, .ref _), (1, .int _)]) hx hb dX1_read_23 rfl hl (by decide) rfl (fun ls hl => ?_)
    refine lv_iload_n hx hb dX1_read_24 rfl (lv_at hl 0 rfl) ?_
    refine lv_sipush (v := 2048) hx hb dX1_read_25 (by decide) ?_
    refine lv_icmp_ge (tgt := 40) hx hb dX1_read_28 (by decide) (fun c_2 => ?_) (fun c_2 => ?_)
    · refine lv_iconst (v := 0) hx hb dX1_read_40 (by decide) ?_
      have hF : xRead a p1 = (0 : Int32) := by
        unfold xRead
        refine (if_pos c_1).trans ?_
        refine (if_pos c_2).trans ?_
        rfl
      rw [hF]
      exact KC.reti hx hb hr hlocks hK hP hD hS dX1_read_41 rfl
    · refine lv_aload_n hx hb dX1_read_31 rfl (lv_at hl 1 rfl) ?_
      refine va_get (ci := 1) (v := .ref (o 3)) (C := RX1) (T := TX1) (N := 2) hx hb hts hi1 hown hK hP 0 rfl rfl 0 (by decide) (hts (.fieldLink RX1 9 "InvaderBoard$Memory" "rom" "[I") (List.mem_cons_of_mem _ (List.mem_append_left _ (List.mem_of_getElem? (i := 2) rfl)))) (fun _ h9 => h9) rfl dX1_read_32 ?_
      refine lv_iload_n hx hb dX1_read_35 rfl (lv_at hl 0 rfl) ?_
      refine va_iald (f := a 0) hx hb hK hP 1 0 rfl rfl (xin_rom c_2) dX1_read_36 ?_
      refine lv_goto (tgt := 41) hx hb dX1_read_37 (by decide) ?_
      have hF : xRead a p1 = (a 0) (p1 &&& (65535 : Int32)).toNatClampNeg := by
        unfold xRead
        refine (if_pos c_1).trans ?_
        refine (if_neg c_2).trans ?_
        rfl
      rw [hF]
      exact KC.reti hx hb hr hlocks hK hP hD hS dX1_read_41 rfl
  · refine lv_aload_n hx hb dX1_read_8 rfl (lv_at hl 0 rfl) ?_
    refine va_get (ci := 1) (v := .ref (o 4)) (C := RX1) (T := TX1) (N := 2) hx hb hts hi1 hown hK hP 0 rfl rfl 1 (by decide) (hts (.fieldLink RX1 13 "InvaderBoard$Memory" "ram" "[I") (List.mem_cons_of_mem _ (List.mem_append_left _ (List.mem_of_getElem? (i := 0) rfl)))) (fun _ h9 => h9) rfl dX1_read_9 ?_
    refine lv_iload_n hx hb dX1_read_12 rfl (lv_at hl 1 rfl) ?_
    refine lv_sipush (v := 8191) hx hb dX1_read_13 (by decide) ?_
    refine lv_iand hx hb dX1_read_16 ?_
    refine va_iald (f := a 1) hx hb hK hP 2 0 rfl rfl (pk_andIn _ 13 (by decide) (by decide)) dX1_read_17 ?_
    have hF : xRead a p1 = (a 1) (p1 &&& (8191 : Int32)).toNatClampNeg := by
      unfold xRead
      refine (if_neg c_1).trans ?_
      rfl
    rw [hF]
    exact KC.reti hx hb hr hlocks hK hP hD hS dX1_read_18 rfl
def xWrite (a : Nat → Nat → Int32) (p1 : Int32) (p2 : Int32) : (Nat → Int32) :=
  if p1 &&& (8192 : Int32) = 0 then a 1
  else upd (a 1) (p1 &&& (8191 : Int32)).toNatClampNeg (p2 &&& (255 : Int32))
set_option maxHeartbeats 4000000 in
set_option maxRecDepth 100000 in
theorem kX1_write (l : Launch) (D : va_G) (cI : ClassId) (o : Nat → Nat) (a : Nat → Nat → Int32) (p1 : Int32) (p2 : Int32) : KC l yX1_write wsX1_write 0 [.ref (o 2), .int p1, .int p2] D cI (wM cI o a) (wM cI o (ua a 1 (xWrite a p1 p2))) none := by
  refine KC.of (cc := cX1_write) (maxL := 3) (by decide) rfl (Nat.le_of_ble_eq_true rfl) ?_
  intro p e s m below meth c A hx hb hr hts hown hlocks hml hK hP hD hS hA ls hl
  have hl : lv_has ls 3 [(0, .ref (o 2)), (1, .int p1), (2, .int p2)] := hl
  have hown : s.vm.findClass RX1 = some m.cls := hown
  have hi1 : ∀ w ∈ u_ws RX1 TX1 2, w ∈ wsX1_write := fun w h => List.mem_cons_of_mem _ (List.mem_append_right _ h)
  refine lv_iload_n hx hb dX1_write_0 rfl (lv_at hl 1 rfl) ?_
  refine lv_sipush (v := 8192) hx hb dX1_write_1 (by decide) ?_
  refine lv_iand hx hb dX1_write_4 ?_
  refine lv_if_eq (tgt := 23) hx hb dX1_write_5 (by decide) (fun c_1 => ?_) (fun c_1 => ?_)
  · have hF : xWrite a p1 p2 = a 1 := by
      unfold xWrite
      refine (if_pos c_1).trans ?_
      rfl
    rw [hF]
    exact KC.retv hx hb hr hlocks hK hP hD hS dX1_write_23
  · refine lv_aload_n hx hb dX1_write_8 rfl (lv_at hl 0 rfl) ?_
    refine va_get (ci := 1) (v := .ref (o 4)) (C := RX1) (T := TX1) (N := 2) hx hb hts hi1 hown hK hP 0 rfl rfl 1 (by decide) (hts (.fieldLink RX1 13 "InvaderBoard$Memory" "ram" "[I") (List.mem_cons_of_mem _ (List.mem_append_left _ (List.mem_of_getElem? (i := 0) rfl)))) (fun _ h9 => h9) rfl dX1_write_9 ?_
    refine lv_iload_n hx hb dX1_write_12 rfl (lv_at hl 1 rfl) ?_
    refine lv_sipush (v := 8191) hx hb dX1_write_13 (by decide) ?_
    refine lv_iand hx hb dX1_write_16 ?_
    refine lv_iload_n hx hb dX1_write_17 rfl (lv_at hl 2 rfl) ?_
    refine lv_sipush (v := 255) hx hb dX1_write_18 (by decide) ?_
    refine lv_iand hx hb dX1_write_21 ?_
    refine pu_M_a1 hx hb hK hP hD hS (pk_andIn _ 13 (by decide) (by decide)) dX1_write_22 (fun H locs hP hD hS => ?_)
    have hF : xWrite a p1 p2 = upd (a 1) (p1 &&& (8191 : Int32)).toNatClampNeg (p2 &&& (255 : Int32)) := by
      unfold xWrite
      refine (if_neg c_1).trans ?_
      rfl
    rw [hF]
    exact KC.retv hx hb hr hlocks hK hP hD hS dX1_write_23
def xReadWord (a : Nat → Nat → Int32) (p1 : Int32) : Int32 :=
  (xRead a p1) ||| ((xRead a (p1 + (1 : Int32))) <<< ((8 : Int32) &&& 31))
set_option maxHeartbeats 4000000 in
set_option maxRecDepth 100000 in
theorem kX1_readWord (l : Launch) (D : va_G) (cI : ClassId) (o : Nat → Nat) (a : Nat → Nat → Int32) (p1 : Int32) : KC l yX1_readWord wsX1_readWord 1 [.ref (o 2), .int p1] D cI (wM cI o a) (wM cI o a) (some (.int (xReadWord a p1))) := by
  refine KC.of (cc := cX1_readWord) (maxL := 2) (by decide) rfl (Nat.le_of_ble_eq_true rfl) ?_
  intro p e s m below meth c A hx hb hr hts hown hlocks hml hK hP hD hS hA ls hl
  have hl : lv_has ls 2 [(0, .ref (o 2)), (1, .int p1)] := hl
  have hown : s.vm.findClass RX1 = some m.cls := hown
  refine lv_aload_n hx hb dX1_readWord_0 rfl (lv_at hl 0 rfl) ?_
  refine lv_iload_n hx hb dX1_readWord_1 rfl (lv_at hl 1 rfl) ?_
  refine KC.calli (ci := 1) (rest := []) (wt := wM cI o a) (kX1_read l D cI o a p1) (cwV 1 hts gX1_readWord_X1_read rfl rfl rfl (by decide +kernel) ⟨Nat.le_of_ble_eq_true rfl, Nat.le_of_ble_eq_true rfl⟩) ⟨hx, hb, hml, hown, hts⟩ hK hP hD hS hA rfl rfl rfl [0, 1, 2] [] [0, 1, 2] (by decide) rfl (wr := []) rfl (by decide) (by decide) (by decide) rfl rfl hl.1 rfl (Nat.le_of_ble_eq_true rfl) dX1_readWord_2 ⟨Nat.zero_le _, Nat.zero_le _⟩ (fun H locs hP hD hS => ?_)
  refine lv_aload_n hx hb dX1_readWord_5 rfl (lv_at hl 0 rfl) ?_
  refine lv_iload_n hx hb dX1_readWord_6 rfl (lv_at hl 1 rfl) ?_
  refine lv_iconst (v := 1) hx hb dX1_readWord_7 (by decide) ?_
  refine lv_iadd hx hb dX1_readWord_8 ?_
  refine KC.calli (ci := 1) (rest := [.int (xRead a p1)]) (wt := wM cI o a) (kX1_read l D cI o a (p1 + (1 : Int32))) (cwV 1 hts gX1_readWord_X1_read rfl rfl rfl (by decide +kernel) ⟨Nat.le_of_ble_eq_true rfl, Nat.le_of_ble_eq_true rfl⟩) ⟨hx, hb, hml, hown, hts⟩ hK hP hD hS hA rfl rfl rfl [0, 1, 2] [] [0, 1, 2] (by decide) rfl (wr := []) rfl (by decide) (by decide) (by decide) rfl rfl hl.1 rfl (Nat.le_of_ble_eq_true rfl) dX1_readWord_9 ⟨Nat.zero_le _, Nat.zero_le _⟩ (fun H locs hP hD hS => ?_)
  refine lv_bipush (v := 8) hx hb dX1_readWord_12 (by decide) ?_
  refine lv_ishl hx hb dX1_readWord_14 ?_
  refine lv_ior hx hb dX1_readWord_15 ?_
  have hF : xReadWord a p1 = (xRead a p1) ||| ((xRead a (p1 + (1 : Int32))) <<< ((8 : Int32) &&& 31)) := rfl
  rw [hF]
  exact KC.reti hx hb hr hlocks hK hP hD hS dX1_readWord_16 rfl
def xWriteWord (a : Nat → Nat → Int32) (p1 : Int32) (p2 : Int32) : (Nat → Int32) :=
  xWrite (ua a 1 (xWrite a p1 p2)) (p1 + (1 : Int32)) (p2 >>> ((8 : Int32) &&& 31))
set_option maxHeartbeats 4000000 in
set_option maxRecDepth 100000 in
theorem kX1_writeWord (l : Launch) (D : va_G) (cI : ClassId) (o : Nat → Nat) (a : Nat → Nat → Int32) (p1 : Int32) (p2 : Int32) : KC l yX1_writeWord wsX1_writeWord 1 [.ref (o 2), .int p1, .int p2] D cI (wM cI o a) (wM cI o (ua a 1 (xWriteWord a p1 p2))) none := by
  refine KC.of (cc := cX1_writeWord) (maxL := 3) (by decide) rfl (Nat.le_of_ble_eq_true rfl) ?_
  intro p e s m below meth c A hx hb hr hts hown hlocks hml hK hP hD hS hA ls hl
  have hl : lv_has ls 3 [(0, .ref (o 2)), (1, .int p1), (2, .int p2)] := hl
  have hown : s.vm.findClass RX1 = some m.cls := hown
  refine lv_aload_n hx hb dX1_writeWord_0 rfl (lv_at hl 0 rfl) ?_
  refine lv_iload_n hx hb dX1_writeWord_1 rfl (lv_at hl 1 rfl) ?_
  refine lv_iload_n hx hb dX1_writeWord_2 rfl (lv_at hl 2 rfl) ?_
  refine KC.callv (ci := 1) (rest := []) (wt := wM cI o (ua a 1 (xWrite a p1 p2))) (kX1_write l D cI o a p1 p2) (cwV 2 hts gX1_writeWord_X1_write rfl rfl rfl (by decide +kernel) ⟨Nat.le_of_ble_eq_true rfl, Nat.le_of_ble_eq_true rfl⟩) ⟨hx, hb, hml, hown, hts⟩ hK hP hD hS hA rfl rfl rfl [0, 1, 2] [] [0, 1, 2] (by decide) rfl (wr := []) rfl (by decide) (by decide) (by decide) rfl rfl hl.1 rfl (Nat.le_of_ble_eq_true rfl) dX1_writeWord_3 ⟨Nat.zero_le _, Nat.zero_le _⟩ (fun H locs hP hD hS => ?_)
  refine lv_aload_n hx hb dX1_writeWord_6 rfl (lv_at hl 0 rfl) ?_
  refine lv_iload_n hx hb dX1_writeWord_7 rfl (lv_at hl 1 rfl) ?_
  refine lv_iconst (v := 1) hx hb dX1_writeWord_8 (by decide) ?_
  refine lv_iadd hx hb dX1_writeWord_9 ?_
  refine lv_iload_n hx hb dX1_writeWord_10 rfl (lv_at hl 2 rfl) ?_
  refine lv_bipush (v := 8) hx hb dX1_writeWord_11 (by decide) ?_
  refine lv_ishr hx hb dX1_writeWord_13 ?_
  refine KC.callv (ci := 1) (rest := []) (wt := wM cI o (ua (ua a 1 (xWrite a p1 p2)) 1 (xWrite (ua a 1 (xWrite a p1 p2)) (p1 + (1 : Int32)) (p2 >>> ((8 : Int32) &&& 31))))) (kX1_write l D cI o (ua a 1 (xWrite a p1 p2)) (p1 + (1 : Int32)) (p2 >>> ((8 : Int32) &&& 31))) (cwV 2 hts gX1_writeWord_X1_write rfl rfl rfl (by decide +kernel) ⟨Nat.le_of_ble_eq_true rfl, Nat.le_of_ble_eq_true rfl⟩) ⟨hx, hb, hml, hown, hts⟩ hK hP hD hS hA rfl rfl rfl [0, 1, 2] [] [0, 1, 2] (by decide) rfl (wr := []) rfl (by decide) (by decide) (by decide) rfl rfl hl.1 rfl (Nat.le_of_ble_eq_true rfl) dX1_writeWord_14 ⟨Nat.zero_le _, Nat.zero_le _⟩ (fun H locs hP hD hS => ?_)
  have hF : xWriteWord a p1 p2 = xWrite (ua a 1 (xWrite a p1 p2)) (p1 + (1 : Int32)) (p2 >>> ((8 : Int32) &&& 31)) := rfl
  rw [hF]
  exact KC.retv hx hb hr hlocks hK hP hD hS dX1_writeWord_17
def xBurn (a : Nat → Nat → Int32) (p1 : Int32) (p2 : Int32) : (Nat → Int32) :=
  if p1 < 0 then a 0
  else if (2048 : Int32) ≤ p1 then a 0
    else upd (a 0) p1.toNatClampNeg (p2 &&& (255 : Int32))
set_option maxHeartbeats 4000000 in
set_option maxRecDepth 100000 in
theorem kX1_burn (l : Launch) (D : va_G) (cI : ClassId) (o : Nat → Nat) (a : Nat → Nat → Int32) (p1 : Int32) (p2 : Int32) : KC l yX1_burn wsX1_burn 0 [.ref (o 2), .int p1, .int p2] D cI (wM cI o a) (wM cI o (ua a 0 (xBurn a p1 p2))) none := by
  refine KC.of (cc := cX1_burn) (maxL := 3) (by decide) rfl (Nat.le_of_ble_eq_true rfl) ?_
  intro p e s m below meth c A hx hb hr hts hown hlocks hml hK hP hD hS hA ls hl
  have hl : lv_has ls 3 [(0, .ref (o 2)), (1, .int p1), (2, .int p2)] := hl
  have hown : s.vm.findClass RX1 = some m.cls := hown
  have hi1 : ∀ w ∈ u_ws RX1 TX1 2, w ∈ wsX1_burn := fun w h => List.mem_cons_of_mem _ (List.mem_append_right _ h)
  refine lv_iload_n hx hb dX1_burn_0 rfl (lv_at hl 1 rfl) ?_
  refine lv_if_lt (tgt := 22) hx hb dX1_burn_1 (by decide) (fun c_1 => ?_) (fun c_1 => ?_)
  · have hF : xBurn a p1 p2 = a 0 := by
      unfold xBurn
      refine (if_pos c_1).trans ?_
      rfl
    rw [hF]
    exact KC.retv hx hb hr hlocks hK hP hD hS dX1_burn_22
  · refine lv_iload_n hx hb dX1_burn_4 rfl (lv_at hl 1 rfl) ?_
    refine lv_sipush (v := 2048) hx hb dX1_burn_5 (by decide) ?_
    refine lv_icmp_ge (tgt := 22) hx hb dX1_burn_8 (by decide) (fun c_2 => ?_) (fun c_2 => ?_)
    · have hF : xBurn a p1 p2 = a 0 := by
        unfold xBurn
        refine (if_neg c_1).trans ?_
        refine (if_pos c_2).trans ?_
        rfl
      rw [hF]
      exact KC.retv hx hb hr hlocks hK hP hD hS dX1_burn_22
    · refine lv_aload_n hx hb dX1_burn_11 rfl (lv_at hl 0 rfl) ?_
      refine va_get (ci := 1) (v := .ref (o 3)) (C := RX1) (T := TX1) (N := 2) hx hb hts hi1 hown hK hP 0 rfl rfl 0 (by decide) (hts (.fieldLink RX1 9 "InvaderBoard$Memory" "rom" "[I") (List.mem_cons_of_mem _ (List.mem_append_left _ (List.mem_of_getElem? (i := 0) rfl)))) (fun _ h9 => h9) rfl dX1_burn_12 ?_
      refine lv_iload_n hx hb dX1_burn_15 rfl (lv_at hl 1 rfl) ?_
      refine lv_iload_n hx hb dX1_burn_16 rfl (lv_at hl 2 rfl) ?_
      refine lv_sipush (v := 255) hx hb dX1_burn_17 (by decide) ?_
      refine lv_iand hx hb dX1_burn_20 ?_
      refine pu_M_a0 hx hb hK hP hD hS (xin 2048 (by decide) c_1 c_2) dX1_burn_21 (fun H locs hP hD hS => ?_)
      have hF : xBurn a p1 p2 = upd (a 0) p1.toNatClampNeg (p2 &&& (255 : Int32)) := by
        unfold xBurn
        refine (if_neg c_1).trans ?_
        refine (if_neg c_2).trans ?_
        rfl
      rw [hF]
      exact KC.retv hx hb hr hlocks hK hP hD hS dX1_burn_22
def xBitCount  (p1 : Int32) : Int32 :=
  (((((((p1 - (((p1.toUInt32 >>> ((1 : Int32).toUInt32 &&& Int32.toUInt32 31)).toInt32) &&& (1431655765 : Int32))) &&& (858993459 : Int32)) + ((((p1 - (((p1.toUInt32 >>> ((1 : Int32).toUInt32 &&& Int32.toUInt32 31)).toInt32) &&& (1431655765 : Int32))).toUInt32 >>> ((2 : Int32).toUInt32 &&& Int32.toUInt32 31)).toInt32) &&& (858993459 : Int32))) + (((((p1 - (((p1.toUInt32 >>> ((1 : Int32).toUInt32 &&& Int32.toUInt32 31)).toInt32) &&& (1431655765 : Int32))) &&& (858993459 : Int32)) + ((((p1 - (((p1.toUInt32 >>> ((1 : Int32).toUInt32 &&& Int32.toUInt32 31)).toInt32) &&& (1431655765 : Int32))).toUInt32 >>> ((2 : Int32).toUInt32 &&& Int32.toUInt32 31)).toInt32) &&& (858993459 : Int32))).toUInt32 >>> ((4 : Int32).toUInt32 &&& Int32.toUInt32 31)).toInt32)) &&& (252645135 : Int32)) + (((((((p1 - (((p1.toUInt32 >>> ((1 : Int32).toUInt32 &&& Int32.toUInt32 31)).toInt32) &&& (1431655765 : Int32))) &&& (858993459 : Int32)) + ((((p1 - (((p1.toUInt32 >>> ((1 : Int32).toUInt32 &&& Int32.toUInt32 31)).toInt32) &&& (1431655765 : Int32))).toUInt32 >>> ((2 : Int32).toUInt32 &&& Int32.toUInt32 31)).toInt32) &&& (858993459 : Int32))) + (((((p1 - (((p1.toUInt32 >>> ((1 : Int32).toUInt32 &&& Int32.toUInt32 31)).toInt32) &&& (1431655765 : Int32))) &&& (858993459 : Int32)) + ((((p1 - (((p1.toUInt32 >>> ((1 : Int32).toUInt32 &&& Int32.toUInt32 31)).toInt32) &&& (1431655765 : Int32))).toUInt32 >>> ((2 : Int32).toUInt32 &&& Int32.toUInt32 31)).toInt32) &&& (858993459 : Int32))).toUInt32 >>> ((4 : Int32).toUInt32 &&& Int32.toUInt32 31)).toInt32)) &&& (252645135 : Int32)).toUInt32 >>> ((8 : Int32).toUInt32 &&& Int32.toUInt32 31)).toInt32)) + ((((((((p1 - (((p1.toUInt32 >>> ((1 : Int32).toUInt32 &&& Int32.toUInt32 31)).toInt32) &&& (1431655765 : Int32))) &&& (858993459 : Int32)) + ((((p1 - (((p1.toUInt32 >>> ((1 : Int32).toUInt32 &&& Int32.toUInt32 31)).toInt32) &&& (1431655765 : Int32))).toUInt32 >>> ((2 : Int32).toUInt32 &&& Int32.toUInt32 31)).toInt32) &&& (858993459 : Int32))) + (((((p1 - (((p1.toUInt32 >>> ((1 : Int32).toUInt32 &&& Int32.toUInt32 31)).toInt32) &&& (1431655765 : Int32))) &&& (858993459 : Int32)) + ((((p1 - (((p1.toUInt32 >>> ((1 : Int32).toUInt32 &&& Int32.toUInt32 31)).toInt32) &&& (1431655765 : Int32))).toUInt32 >>> ((2 : Int32).toUInt32 &&& Int32.toUInt32 31)).toInt32) &&& (858993459 : Int32))).toUInt32 >>> ((4 : Int32).toUInt32 &&& Int32.toUInt32 31)).toInt32)) &&& (252645135 : Int32)) + (((((((p1 - (((p1.toUInt32 >>> ((1 : Int32).toUInt32 &&& Int32.toUInt32 31)).toInt32) &&& (1431655765 : Int32))) &&& (858993459 : Int32)) + ((((p1 - (((p1.toUInt32 >>> ((1 : Int32).toUInt32 &&& Int32.toUInt32 31)).toInt32) &&& (1431655765 : Int32))).toUInt32 >>> ((2 : Int32).toUInt32 &&& Int32.toUInt32 31)).toInt32) &&& (858993459 : Int32))) + (((((p1 - (((p1.toUInt32 >>> ((1 : Int32).toUInt32 &&& Int32.toUInt32 31)).toInt32) &&& (1431655765 : Int32))) &&& (858993459 : Int32)) + ((((p1 - (((p1.toUInt32 >>> ((1 : Int32).toUInt32 &&& Int32.toUInt32 31)).toInt32) &&& (1431655765 : Int32))).toUInt32 >>> ((2 : Int32).toUInt32 &&& Int32.toUInt32 31)).toInt32) &&& (858993459 : Int32))).toUInt32 >>> ((4 : Int32).toUInt32 &&& Int32.toUInt32 31)).toInt32)) &&& (252645135 : Int32)).toUInt32 >>> ((8 : Int32).toUInt32 &&& Int32.toUInt32 31)).toInt32)).toUInt32 >>> ((16 : Int32).toUInt32 &&& Int32.toUInt32 31)).toInt32)) &&& (63 : Int32)
set_option maxHeartbeats 4000000 in
set_option maxRecDepth 100000 in
theorem kJ6_bitCount_0f7a4 (l : Launch) (D : va_G) (cI : ClassId)  (p1 : Int32) : KC l yJ6_bitCount_0f7a4 wsJ6_bitCount_0f7a4 0 [.int p1] D cI ([]) ([]) (some (.int (xBitCount p1))) := by
  refine KC.of (cc := cJ6_bitCount_0f7a4) (maxL := 1) (by decide) rfl (Nat.le_of_ble_eq_true rfl) ?_
  intro p e s m below meth c A hx hb hr hts hown hlocks hml hK hP hD hS hA ls hl
  have hl : lv_has ls 1 [(0, .int p1)] := hl
  have hown : s.vm.findClass RJ6 = some m.cls := hown
  refine lv_iload_n hx hb dJ6_bitCount_0f7a4_0 rfl (lv_at hl 0 rfl) ?_
  refine lv_iload_n hx hb dJ6_bitCount_0f7a4_1 rfl (lv_at hl 0 rfl) ?_
  refine lv_iconst (v := 1) hx hb dJ6_bitCount_0f7a4_2 (by decide) ?_
  refine lv_iushr hx hb dJ6_bitCount_0f7a4_3 rfl ?_
  refine lv_ldcw (v := 1431655765) hx hb hown (hts (.constant RJ6 265 1431655765) (List.mem_cons_of_mem _ (List.mem_of_getElem? (i := 0) rfl))) dJ6_bitCount_0f7a4_4 ?_
  refine lv_iand hx hb dJ6_bitCount_0f7a4_7 ?_
  refine lv_isub hx hb dJ6_bitCount_0f7a4_8 ?_
  refine lv_istore_n (lv' := [(0, .int _)]) hx hb dJ6_bitCount_0f7a4_9 rfl hl (by decide) rfl (fun ls hl => ?_)
  refine lv_iload_n hx hb dJ6_bitCount_0f7a4_10 rfl (lv_at hl 0 rfl) ?_
  refine lv_ldcw (v := 858993459) hx hb hown (hts (.constant RJ6 266 858993459) (List.mem_cons_of_mem _ (List.mem_of_getElem? (i := 1) rfl))) dJ6_bitCount_0f7a4_11 ?_
  refine lv_iand hx hb dJ6_bitCount_0f7a4_14 ?_
  refine lv_iload_n hx hb dJ6_bitCount_0f7a4_15 rfl (lv_at hl 0 rfl) ?_
  refine lv_iconst (v := 2) hx hb dJ6_bitCount_0f7a4_16 (by decide) ?_
  refine lv_iushr hx hb dJ6_bitCount_0f7a4_17 rfl ?_
  refine lv_ldcw (v := 858993459) hx hb hown (hts (.constant RJ6 266 858993459) (List.mem_cons_of_mem _ (List.mem_of_getElem? (i := 1) rfl))) dJ6_bitCount_0f7a4_18 ?_
  refine lv_iand hx hb dJ6_bitCount_0f7a4_21 ?_
  refine lv_iadd hx hb dJ6_bitCount_0f7a4_22 ?_
  refine lv_istore_n (lv' := [(0, .int _)]) hx hb dJ6_bitCount_0f7a4_23 rfl hl (by decide) rfl (fun ls hl => ?_)
  refine lv_iload_n hx hb dJ6_bitCount_0f7a4_24 rfl (lv_at hl 0 rfl) ?_
  refine lv_iload_n hx hb dJ6_bitCount_0f7a4_25 rfl (lv_at hl 0 rfl) ?_
  refine lv_iconst (v := 4) hx hb dJ6_bitCount_0f7a4_26 (by decide) ?_
  refine lv_iushr hx hb dJ6_bitCount_0f7a4_27 rfl ?_
  refine lv_iadd hx hb dJ6_bitCount_0f7a4_28 ?_
  refine lv_ldcw (v := 252645135) hx hb hown (hts (.constant RJ6 267 252645135) (List.mem_cons_of_mem _ (List.mem_of_getElem? (i := 2) rfl))) dJ6_bitCount_0f7a4_29 ?_
  refine lv_iand hx hb dJ6_bitCount_0f7a4_32 ?_
  refine lv_istore_n (lv' := [(0, .int _)]) hx hb dJ6_bitCount_0f7a4_33 rfl hl (by decide) rfl (fun ls hl => ?_)
  refine lv_iload_n hx hb dJ6_bitCount_0f7a4_34 rfl (lv_at hl 0 rfl) ?_
  refine lv_iload_n hx hb dJ6_bitCount_0f7a4_35 rfl (lv_at hl 0 rfl) ?_
  refine lv_bipush (v := 8) hx hb dJ6_bitCount_0f7a4_36 (by decide) ?_
  refine lv_iushr hx hb dJ6_bitCount_0f7a4_38 rfl ?_
  refine lv_iadd hx hb dJ6_bitCount_0f7a4_39 ?_
  refine lv_istore_n (lv' := [(0, .int _)]) hx hb dJ6_bitCount_0f7a4_40 rfl hl (by decide) rfl (fun ls hl => ?_)
  refine lv_iload_n hx hb dJ6_bitCount_0f7a4_41 rfl (lv_at hl 0 rfl) ?_
  refine lv_iload_n hx hb dJ6_bitCount_0f7a4_42 rfl (lv_at hl 0 rfl) ?_
  refine lv_bipush (v := 16) hx hb dJ6_bitCount_0f7a4_43 (by decide) ?_
  refine lv_iushr hx hb dJ6_bitCount_0f7a4_45 rfl ?_
  refine lv_iadd hx hb dJ6_bitCount_0f7a4_46 ?_
  refine lv_istore_n (lv' := [(0, .int _)]) hx hb dJ6_bitCount_0f7a4_47 rfl hl (by decide) rfl (fun ls hl => ?_)
  refine lv_iload_n hx hb dJ6_bitCount_0f7a4_48 rfl (lv_at hl 0 rfl) ?_
  refine lv_bipush (v := 63) hx hb dJ6_bitCount_0f7a4_49 (by decide) ?_
  refine lv_iand hx hb dJ6_bitCount_0f7a4_51 ?_
  have hF : xBitCount p1 = (((((((p1 - (((p1.toUInt32 >>> ((1 : Int32).toUInt32 &&& Int32.toUInt32 31)).toInt32) &&& (1431655765 : Int32))) &&& (858993459 : Int32)) + ((((p1 - (((p1.toUInt32 >>> ((1 : Int32).toUInt32 &&& Int32.toUInt32 31)).toInt32) &&& (1431655765 : Int32))).toUInt32 >>> ((2 : Int32).toUInt32 &&& Int32.toUInt32 31)).toInt32) &&& (858993459 : Int32))) + (((((p1 - (((p1.toUInt32 >>> ((1 : Int32).toUInt32 &&& Int32.toUInt32 31)).toInt32) &&& (1431655765 : Int32))) &&& (858993459 : Int32)) + ((((p1 - (((p1.toUInt32 >>> ((1 : Int32).toUInt32 &&& Int32.toUInt32 31)).toInt32) &&& (1431655765 : Int32))).toUInt32 >>> ((2 : Int32).toUInt32 &&& Int32.toUInt32 31)).toInt32) &&& (858993459 : Int32))).toUInt32 >>> ((4 : Int32).toUInt32 &&& Int32.toUInt32 31)).toInt32)) &&& (252645135 : Int32)) + (((((((p1 - (((p1.toUInt32 >>> ((1 : Int32).toUInt32 &&& Int32.toUInt32 31)).toInt32) &&& (1431655765 : Int32))) &&& (858993459 : Int32)) + ((((p1 - (((p1.toUInt32 >>> ((1 : Int32).toUInt32 &&& Int32.toUInt32 31)).toInt32) &&& (1431655765 : Int32))).toUInt32 >>> ((2 : Int32).toUInt32 &&& Int32.toUInt32 31)).toInt32) &&& (858993459 : Int32))) + (((((p1 - (((p1.toUInt32 >>> ((1 : Int32).toUInt32 &&& Int32.toUInt32 31)).toInt32) &&& (1431655765 : Int32))) &&& (858993459 : Int32)) + ((((p1 - (((p1.toUInt32 >>> ((1 : Int32).toUInt32 &&& Int32.toUInt32 31)).toInt32) &&& (1431655765 : Int32))).toUInt32 >>> ((2 : Int32).toUInt32 &&& Int32.toUInt32 31)).toInt32) &&& (858993459 : Int32))).toUInt32 >>> ((4 : Int32).toUInt32 &&& Int32.toUInt32 31)).toInt32)) &&& (252645135 : Int32)).toUInt32 >>> ((8 : Int32).toUInt32 &&& Int32.toUInt32 31)).toInt32)) + ((((((((p1 - (((p1.toUInt32 >>> ((1 : Int32).toUInt32 &&& Int32.toUInt32 31)).toInt32) &&& (1431655765 : Int32))) &&& (858993459 : Int32)) + ((((p1 - (((p1.toUInt32 >>> ((1 : Int32).toUInt32 &&& Int32.toUInt32 31)).toInt32) &&& (1431655765 : Int32))).toUInt32 >>> ((2 : Int32).toUInt32 &&& Int32.toUInt32 31)).toInt32) &&& (858993459 : Int32))) + (((((p1 - (((p1.toUInt32 >>> ((1 : Int32).toUInt32 &&& Int32.toUInt32 31)).toInt32) &&& (1431655765 : Int32))) &&& (858993459 : Int32)) + ((((p1 - (((p1.toUInt32 >>> ((1 : Int32).toUInt32 &&& Int32.toUInt32 31)).toInt32) &&& (1431655765 : Int32))).toUInt32 >>> ((2 : Int32).toUInt32 &&& Int32.toUInt32 31)).toInt32) &&& (858993459 : Int32))).toUInt32 >>> ((4 : Int32).toUInt32 &&& Int32.toUInt32 31)).toInt32)) &&& (252645135 : Int32)) + (((((((p1 - (((p1.toUInt32 >>> ((1 : Int32).toUInt32 &&& Int32.toUInt32 31)).toInt32) &&& (1431655765 : Int32))) &&& (858993459 : Int32)) + ((((p1 - (((p1.toUInt32 >>> ((1 : Int32).toUInt32 &&& Int32.toUInt32 31)).toInt32) &&& (1431655765 : Int32))).toUInt32 >>> ((2 : Int32).toUInt32 &&& Int32.toUInt32 31)).toInt32) &&& (858993459 : Int32))) + (((((p1 - (((p1.toUInt32 >>> ((1 : Int32).toUInt32 &&& Int32.toUInt32 31)).toInt32) &&& (1431655765 : Int32))) &&& (858993459 : Int32)) + ((((p1 - (((p1.toUInt32 >>> ((1 : Int32).toUInt32 &&& Int32.toUInt32 31)).toInt32) &&& (1431655765 : Int32))).toUInt32 >>> ((2 : Int32).toUInt32 &&& Int32.toUInt32 31)).toInt32) &&& (858993459 : Int32))).toUInt32 >>> ((4 : Int32).toUInt32 &&& Int32.toUInt32 31)).toInt32)) &&& (252645135 : Int32)).toUInt32 >>> ((8 : Int32).toUInt32 &&& Int32.toUInt32 31)).toInt32)).toUInt32 >>> ((16 : Int32).toUInt32 &&& Int32.toUInt32 31)).toInt32)) &&& (63 : Int32) := rfl
  rw [hF]
  exact KC.reti hx hb hr hlocks hK hP hD hS dJ6_bitCount_0f7a4_52 rfl
def xSetInput (f : Nat → Int32) (a : Nat → Nat → Int32) (p1 : Int32) (p2 : Int32) : (Nat → Int32) :=
  if p1 < 0 then a 3
  else if (3 : Int32) ≤ p1 then a 3
    else upd (a 3) p1.toNatClampNeg (p2 &&& (255 : Int32))
set_option maxHeartbeats 4000000 in
set_option maxRecDepth 100000 in
theorem kX2_setInput (l : Launch) (D : va_G) (cI : ClassId) (o : Nat → Nat) (f : Nat → Int32) (a : Nat → Nat → Int32) (p1 : Int32) (p2 : Int32) : KC l yX2_setInput wsX2_setInput 0 [.ref (o 5), .int p1, .int p2] D cI (wT cI o f a) (wT cI o f (ua a 3 (xSetInput f a p1 p2))) none := by
  refine KC.of (cc := cX2_setInput) (maxL := 3) (by decide) rfl (Nat.le_of_ble_eq_true rfl) ?_
  intro p e s m below meth c A hx hb hr hts hown hlocks hml hK hP hD hS hA ls hl
  have hl : lv_has ls 3 [(0, .ref (o 5)), (1, .int p1), (2, .int p2)] := hl
  have hown : s.vm.findClass RX2 = some m.cls := hown
  have hi2 : ∀ w ∈ u_ws RX2 TX2 6, w ∈ wsX2_setInput := fun w h => List.mem_cons_of_mem _ (List.mem_append_right _ h)
  refine lv_iload_n hx hb dX2_setInput_0 rfl (lv_at hl 1 rfl) ?_
  refine lv_if_lt (tgt := 20) hx hb dX2_setInput_1 (by decide) (fun c_1 => ?_) (fun c_1 => ?_)
  · have hF : xSetInput f a p1 p2 = a 3 := by
      unfold xSetInput
      refine (if_pos c_1).trans ?_
      rfl
    rw [hF]
    exact KC.retv hx hb hr hlocks hK hP hD hS dX2_setInput_20
  · refine lv_iload_n hx hb dX2_setInput_4 rfl (lv_at hl 1 rfl) ?_
    refine lv_iconst (v := 3) hx hb dX2_setInput_5 (by decide) ?_
    refine lv_icmp_ge (tgt := 20) hx hb dX2_setInput_6 (by decide) (fun c_2 => ?_) (fun c_2 => ?_)
    · have hF : xSetInput f a p1 p2 = a 3 := by
        unfold xSetInput
        refine (if_neg c_1).trans ?_
        refine (if_pos c_2).trans ?_
        rfl
      rw [hF]
      exact KC.retv hx hb hr hlocks hK hP hD hS dX2_setInput_20
    · refine lv_aload_n hx hb dX2_setInput_9 rfl (lv_at hl 0 rfl) ?_
      refine va_get (ci := 2) (v := .ref (o 6)) (C := RX2) (T := TX2) (N := 6) hx hb hts hi2 hown hK hP 0 rfl rfl 0 (by decide) (hts (.fieldLink RX2 9 "InvaderBoard$Ports" "inputs" "[I") (List.mem_cons_of_mem _ (List.mem_append_left _ (List.mem_of_getElem? (i := 0) rfl)))) (fun _ h9 => h9) rfl dX2_setInput_10 ?_
      refine lv_iload_n hx hb dX2_setInput_13 rfl (lv_at hl 1 rfl) ?_
      refine lv_iload_n hx hb dX2_setInput_14 rfl (lv_at hl 2 rfl) ?_
      refine lv_sipush (v := 255) hx hb dX2_setInput_15 (by decide) ?_
      refine lv_iand hx hb dX2_setInput_18 ?_
      refine pu_T_a3 hx hb hK hP hD hS (xin 3 (by decide) c_1 c_2) dX2_setInput_19 (fun H locs hP hD hS => ?_)
      have hF : xSetInput f a p1 p2 = upd (a 3) p1.toNatClampNeg (p2 &&& (255 : Int32)) := by
        unfold xSetInput
        refine (if_neg c_1).trans ?_
        refine (if_neg c_2).trans ?_
        rfl
      rw [hF]
      exact KC.retv hx hb hr hlocks hK hP hD hS dX2_setInput_20
def xShifted (f : Nat → Int32) (a : Nat → Nat → Int32)  : Int32 :=
  (((f 5) <<< ((f 6) &&& 31)) >>> ((8 : Int32) &&& 31)) &&& (255 : Int32)
set_option maxHeartbeats 4000000 in
set_option maxRecDepth 100000 in
theorem kX2_shifted (l : Launch) (D : va_G) (cI : ClassId) (o : Nat → Nat) (f : Nat → Int32) (a : Nat → Nat → Int32)  : KC l yX2_shifted wsX2_shifted 0 [.ref (o 5)] D cI (wT cI o f a) (wT cI o f a) (some (.int (xShifted f a))) := by
  refine KC.of (cc := cX2_shifted) (maxL := 1) (by decide) rfl (Nat.le_of_ble_eq_true rfl) ?_
  intro p e s m below meth c A hx hb hr hts hown hlocks hml hK hP hD hS hA ls hl
  have hl : lv_has ls 1 [(0, .ref (o 5))] := hl
  have hown : s.vm.findClass RX2 = some m.cls := hown
  have hi2 : ∀ w ∈ u_ws RX2 TX2 6, w ∈ wsX2_shifted := fun w h => List.mem_cons_of_mem _ (List.mem_append_right _ h)
  refine lv_aload_n hx hb dX2_shifted_0 rfl (lv_at hl 0 rfl) ?_
  refine va_get (ci := 2) (v := .int (f 5)) (C := RX2) (T := TX2) (N := 6) hx hb hts hi2 hown hK hP 0 rfl rfl 3 (by decide) (hts (.fieldLink RX2 19 "InvaderBoard$Ports" "shifter" "I") (List.mem_cons_of_mem _ (List.mem_append_left _ (List.mem_of_getElem? (i := 0) rfl)))) (fun _ h9 => h9) rfl dX2_shifted_1 ?_
  refine lv_aload_n hx hb dX2_shifted_4 rfl (lv_at hl 0 rfl) ?_
  refine va_get (ci := 2) (v := .int (f 6)) (C := RX2) (T := TX2) (N := 6) hx hb hts hi2 hown hK hP 0 rfl rfl 4 (by decide) (hts (.fieldLink RX2 23 "InvaderBoard$Ports" "offset" "I") (List.mem_cons_of_mem _ (List.mem_append_left _ (List.mem_of_getElem? (i := 1) rfl)))) (fun _ h9 => h9) rfl dX2_shifted_5 ?_
  refine lv_ishl hx hb dX2_shifted_8 ?_
  refine lv_bipush (v := 8) hx hb dX2_shifted_9 (by decide) ?_
  refine lv_ishr hx hb dX2_shifted_11 ?_
  refine lv_sipush (v := 255) hx hb dX2_shifted_12 (by decide) ?_
  refine lv_iand hx hb dX2_shifted_15 ?_
  have hF : xShifted f a = (((f 5) <<< ((f 6) &&& 31)) >>> ((8 : Int32) &&& 31)) &&& (255 : Int32) := rfl
  rw [hF]
  exact KC.reti hx hb hr hlocks hK hP hD hS dX2_shifted_16 rfl
def xIn (f : Nat → Int32) (a : Nat → Nat → Int32) (p1 : Int32) : Int32 :=
  if p1 < 0 then if p1 = (3 : Int32) then xShifted f a
    else (0 : Int32)
  else if (3 : Int32) ≤ p1 then if p1 = (3 : Int32) then xShifted f a
      else (0 : Int32)
    else (a 3) p1.toNatClampNeg
set_option maxHeartbeats 4000000 in
set_option maxRecDepth 100000 in
theorem kX2_in (l : Launch) (D : va_G) (cI : ClassId) (o : Nat → Nat) (f : Nat → Int32) (a : Nat → Nat → Int32) (p1 : Int32) : KC l yX2_in wsX2_in 1 [.ref (o 5), .int p1] D cI (wT cI o f a) (wT cI o f a) (some (.int (xIn f a p1))) := by
  refine KC.of (cc := cX2_in) (maxL := 2) (by decide) rfl (Nat.le_of_ble_eq_true rfl) ?_
  intro p e s m below meth c A hx hb hr hts hown hlocks hml hK hP hD hS hA ls hl
  have hl : lv_has ls 2 [(0, .ref (o 5)), (1, .int p1)] := hl
  have hown : s.vm.findClass RX2 = some m.cls := hown
  have hi2 : ∀ w ∈ u_ws RX2 TX2 6, w ∈ wsX2_in := fun w h => List.mem_cons_of_mem _ (List.mem_append_right _ h)
  refine lv_iload_n hx hb dX2_in_0 rfl (lv_at hl 1 rfl) ?_
  refine lv_if_lt (tgt := 16) hx hb dX2_in_1 (by decide) (fun c_1 => ?_) (fun c_1 => ?_)
  · refine lv_iload_n hx hb dX2_in_16 rfl (lv_at hl 1 rfl) ?_
    refine lv_iconst (v := 3) hx hb dX2_in_17 (by decide) ?_
    refine lv_icmp_ne (tgt := 28) hx hb dX2_in_18 (by decide) (fun c_2 => ?_) (fun c_2 => ?_)
    · refine lv_iconst (v := 0) hx hb dX2_in_28 (by decide) ?_
      have hF : xIn f a p1 = (0 : Int32) := by
        unfold xIn
        refine (if_pos c_1).trans ?_
        refine (if_neg c_2).trans ?_
        rfl
      rw [hF]
      exact KC.reti hx hb hr hlocks hK hP hD hS dX2_in_29 rfl
    · refine lv_aload_n hx hb dX2_in_21 rfl (lv_at hl 0 rfl) ?_
      refine KC.calli (ci := 2) (rest := []) (wt := wT cI o f a) (kX2_shifted l D cI o f a) (cwV 0 hts gX2_in_X2_shifted rfl rfl rfl (by decide +kernel) ⟨Nat.le_of_ble_eq_true rfl, Nat.le_of_ble_eq_true rfl⟩) ⟨hx, hb, hml, hown, hts⟩ hK hP hD hS hA rfl rfl rfl [0, 1, 2, 3] [] [0, 1, 2, 3] (by decide) rfl (wr := []) rfl (by decide) (by decide) (by decide) rfl rfl hl.1 rfl (Nat.le_of_ble_eq_true rfl) dX2_in_22 ⟨Nat.zero_le _, Nat.zero_le _⟩ (fun H locs hP hD hS => ?_)
      refine lv_goto (tgt := 29) hx hb dX2_in_25 (by decide) ?_
      have hF : xIn f a p1 = xShifted f a := by
        unfold xIn
        refine (if_pos c_1).trans ?_
        refine (if_pos c_2).trans ?_
        rfl
      rw [hF]
      exact KC.reti hx hb hr hlocks hK hP hD hS dX2_in_29 rfl
  · refine lv_iload_n hx hb dX2_in_4 rfl (lv_at hl 1 rfl) ?_
    refine lv_iconst (v := 3) hx hb dX2_in_5 (by decide) ?_
    refine lv_icmp_ge (tgt := 16) hx hb dX2_in_6 (by decide) (fun c_3 => ?_) (fun c_3 => ?_)
    · refine lv_iload_n hx hb dX2_in_16 rfl (lv_at hl 1 rfl) ?_
      refine lv_iconst (v := 3) hx hb dX2_in_17 (by decide) ?_
      refine lv_icmp_ne (tgt := 28) hx hb dX2_in_18 (by decide) (fun c_4 => ?_) (fun c_4 => ?_)
      · refine lv_iconst (v := 0) hx hb dX2_in_28 (by decide) ?_
        have hF : xIn f a p1 = (0 : Int32) := by
          unfold xIn
          refine (if_neg c_1).trans ?_
          refine (if_pos c_3).trans ?_
          refine (if_neg c_4).trans ?_
          rfl
        rw [hF]
        exact KC.reti hx hb hr hlocks hK hP hD hS dX2_in_29 rfl
      · refine lv_aload_n hx hb dX2_in_21 rfl (lv_at hl 0 rfl) ?_
        refine KC.calli (ci := 2) (rest := []) (wt := wT cI o f a) (kX2_shifted l D cI o f a) (cwV 0 hts gX2_in_X2_shifted rfl rfl rfl (by decide +kernel) ⟨Nat.le_of_ble_eq_true rfl, Nat.le_of_ble_eq_true rfl⟩) ⟨hx, hb, hml, hown, hts⟩ hK hP hD hS hA rfl rfl rfl [0, 1, 2, 3] [] [0, 1, 2, 3] (by decide) rfl (wr := []) rfl (by decide) (by decide) (by decide) rfl rfl hl.1 rfl (Nat.le_of_ble_eq_true rfl) dX2_in_22 ⟨Nat.zero_le _, Nat.zero_le _⟩ (fun H locs hP hD hS => ?_)
        refine lv_goto (tgt := 29) hx hb dX2_in_25 (by decide) ?_
        have hF : xIn f a p1 = xShifted f a := by
          unfold xIn
          refine (if_neg c_1).trans ?_
          refine (if_pos c_3).trans ?_
          refine (if_pos c_4).trans ?_
          rfl
        rw [hF]
        exact KC.reti hx hb hr hlocks hK hP hD hS dX2_in_29 rfl
    · refine lv_aload_n hx hb dX2_in_9 rfl (lv_at hl 0 rfl) ?_
      refine va_get (ci := 2) (v := .ref (o 6)) (C := RX2) (T := TX2) (N := 6) hx hb hts hi2 hown hK hP 0 rfl rfl 0 (by decide) (hts (.fieldLink RX2 9 "InvaderBoard$Ports" "inputs" "[I") (List.mem_cons_of_mem _ (List.mem_append_left _ (List.mem_of_getElem? (i := 0) rfl)))) (fun _ h9 => h9) rfl dX2_in_10 ?_
      refine lv_iload_n hx hb dX2_in_13 rfl (lv_at hl 1 rfl) ?_
      refine va_iald (f := a 3) hx hb hK hP 1 0 rfl rfl (xin 3 (by decide) (by assumption) (by assumption)) dX2_in_14 ?_
      have hF : xIn f a p1 = (a 3) p1.toNatClampNeg := by
        unfold xIn
        refine (if_neg c_1).trans ?_
        refine (if_neg c_3).trans ?_
        rfl
      rw [hF]
      exact KC.reti hx hb hr hlocks hK hP hD hS dX2_in_15 rfl
def xLatchOf (f : Nat → Int32) (a : Nat → Nat → Int32) (p1 : Int32) : Int32 :=
  (a 4) (p1 &&& (1 : Int32)).toNatClampNeg
set_option maxHeartbeats 4000000 in
set_option maxRecDepth 100000 in
theorem kX2_latchOf (l : Launch) (D : va_G) (cI : ClassId) (o : Nat → Nat) (f : Nat → Int32) (a : Nat → Nat → Int32) (p1 : Int32) : KC l yX2_latchOf wsX2_latchOf 0 [.ref (o 5), .int p1] D cI (wT cI o f a) (wT cI o f a) (some (.int (xLatchOf f a p1))) := by
  refine KC.of (cc := cX2_latchOf) (maxL := 2) (by decide) rfl (Nat.le_of_ble_eq_true rfl) ?_
  intro p e s m below meth c A hx hb hr hts hown hlocks hml hK hP hD hS hA ls hl
  have hl : lv_has ls 2 [(0, .ref (o 5)), (1, .int p1)] := hl
  have hown : s.vm.findClass RX2 = some m.cls := hown
  have hi2 : ∀ w ∈ u_ws RX2 TX2 6, w ∈ wsX2_latchOf := fun w h => List.mem_cons_of_mem _ (List.mem_append_right _ h)
  refine lv_aload_n hx hb dX2_latchOf_0 rfl (lv_at hl 0 rfl) ?_
  refine va_get (ci := 2) (v := .ref (o 7)) (C := RX2) (T := TX2) (N := 6) hx hb hts hi2 hown hK hP 0 rfl rfl 1 (by decide) (hts (.fieldLink RX2 13 "InvaderBoard$Ports" "latches" "[I") (List.mem_cons_of_mem _ (List.mem_append_left _ (List.mem_of_getElem? (i := 0) rfl)))) (fun _ h9 => h9) rfl dX2_latchOf_1 ?_
  refine lv_iload_n hx hb dX2_latchOf_4 rfl (lv_at hl 1 rfl) ?_
  refine lv_iconst (v := 1) hx hb dX2_latchOf_5 (by decide) ?_
  refine lv_iand hx hb dX2_latchOf_6 ?_
  refine va_iald (f := a 4) hx hb hK hP 2 0 rfl rfl (pk_andIn _ 1 (by decide) (by decide)) dX2_latchOf_7 ?_
  have hF : xLatchOf f a p1 = (a 4) (p1 &&& (1 : Int32)).toNatClampNeg := rfl
  rw [hF]
  exact KC.reti hx hb hr hlocks hK hP hD hS dX2_latchOf_8 rfl
def xRisesOf (f : Nat → Int32) (a : Nat → Nat → Int32) (p1 : Int32) : Int32 :=
  (a 5) (p1 &&& (15 : Int32)).toNatClampNeg
set_option maxHeartbeats 4000000 in
set_option maxRecDepth 100000 in
theorem kX2_risesOf (l : Launch) (D : va_G) (cI : ClassId) (o : Nat → Nat) (f : Nat → Int32) (a : Nat → Nat → Int32) (p1 : Int32) : KC l yX2_risesOf wsX2_risesOf 0 [.ref (o 5), .int p1] D cI (wT cI o f a) (wT cI o f a) (some (.int (xRisesOf f a p1))) := by
  refine KC.of (cc := cX2_risesOf) (maxL := 2) (by decide) rfl (Nat.le_of_ble_eq_true rfl) ?_
  intro p e s m below meth c A hx hb hr hts hown hlocks hml hK hP hD hS hA ls hl
  have hl : lv_has ls 2 [(0, .ref (o 5)), (1, .int p1)] := hl
  have hown : s.vm.findClass RX2 = some m.cls := hown
  have hi2 : ∀ w ∈ u_ws RX2 TX2 6, w ∈ wsX2_risesOf := fun w h => List.mem_cons_of_mem _ (List.mem_append_right _ h)
  refine lv_aload_n hx hb dX2_risesOf_0 rfl (lv_at hl 0 rfl) ?_
  refine va_get (ci := 2) (v := .ref (o 8)) (C := RX2) (T := TX2) (N := 6) hx hb hts hi2 hown hK hP 0 rfl rfl 2 (by decide) (hts (.fieldLink RX2 16 "InvaderBoard$Ports" "rises" "[I") (List.mem_cons_of_mem _ (List.mem_append_left _ (List.mem_of_getElem? (i := 0) rfl)))) (fun _ h9 => h9) rfl dX2_risesOf_1 ?_
  refine lv_iload_n hx hb dX2_risesOf_4 rfl (lv_at hl 1 rfl) ?_
  refine lv_bipush (v := 15) hx hb dX2_risesOf_5 (by decide) ?_
  refine lv_iand hx hb dX2_risesOf_7 ?_
  refine va_iald (f := a 5) hx hb hK hP 3 0 rfl rfl (pk_andIn _ 4 (by decide) (by decide)) dX2_risesOf_8 ?_
  have hF : xRisesOf f a p1 = (a 5) (p1 &&& (15 : Int32)).toNatClampNeg := rfl
  rw [hF]
  exact KC.reti hx hb hr hlocks hK hP hD hS dX2_risesOf_9 rfl
def xEndFrame (f : Nat → Int32) (a : Nat → Nat → Int32)  : Int32 × Int32 :=
  if ((f 7) + (1 : Int32)) < (16 : Int32) then ((0 : Int32), (f 7) + (1 : Int32))
  else ((1 : Int32), (f 7) + (1 : Int32))
set_option maxHeartbeats 4000000 in
set_option maxRecDepth 100000 in
theorem kX2_endFrameUnfed (l : Launch) (D : va_G) (cI : ClassId) (o : Nat → Nat) (f : Nat → Int32) (a : Nat → Nat → Int32)  : KC l yX2_endFrameUnfed wsX2_endFrameUnfed 0 [.ref (o 5)] D cI (wT cI o f a) (wT cI o (upd f 7 ((xEndFrame f a).2)) a) (some (.int (xEndFrame f a).1)) := by
  refine KC.of (cc := cX2_endFrameUnfed) (maxL := 1) (by decide) rfl (Nat.le_of_ble_eq_true rfl) ?_
  intro p e s m below meth c A hx hb hr hts hown hlocks hml hK hP hD hS hA ls hl
  have hl : lv_has ls 1 [(0, .ref (o 5))] := hl
  have hown : s.vm.findClass RX2 = some m.cls := hown
  have hi2 : ∀ w ∈ u_ws RX2 TX2 6, w ∈ wsX2_endFrameUnfed := fun w h => List.mem_cons_of_mem _ (List.mem_append_right _ h)
  refine lv_aload_n hx hb dX2_endFrameUnfed_0 rfl (lv_at hl 0 rfl) ?_
  refine lv_dup hx hb dX2_endFrameUnfed_1 rfl ?_
  refine va_get (ci := 2) (v := .int (f 7)) (C := RX2) (T := TX2) (N := 6) hx hb hts hi2 hown hK hP 0 rfl rfl 5 (by decide) (hts (.fieldLink RX2 26 "InvaderBoard$Ports" "framesUnfed" "I") (List.mem_cons_of_mem _ (List.mem_append_left _ (List.mem_of_getElem? (i := 0) rfl)))) (fun _ h9 => h9) rfl dX2_endFrameUnfed_2 ?_
  refine lv_iconst (v := 1) hx hb dX2_endFrameUnfed_5 (by decide) ?_
  refine lv_iadd hx hb dX2_endFrameUnfed_6 ?_
  refine pu_T_f7 (v := (f 7) + (1 : Int32)) hx hb hts hi2 hown hK hP hD hS (hts (.fieldLink RX2 26 "InvaderBoard$Ports" "framesUnfed" "I") (List.mem_cons_of_mem _ (List.mem_append_left _ (List.mem_of_getElem? (i := 0) rfl)))) dX2_endFrameUnfed_7 (fun H locs hP hD hS => ?_)
  refine lv_aload_n hx hb dX2_endFrameUnfed_10 rfl (lv_at hl 0 rfl) ?_
  refine va_get (ci := 2) (v := .int ((f 7) + (1 : Int32))) (C := RX2) (T := TX2) (N := 6) hx hb hts hi2 hown hK hP 0 rfl rfl 5 (by decide) (hts (.fieldLink RX2 26 "InvaderBoard$Ports" "framesUnfed" "I") (List.mem_cons_of_mem _ (List.mem_append_left _ (List.mem_of_getElem? (i := 0) rfl)))) (fun _ h9 => h9) rfl dX2_endFrameUnfed_11 ?_
  refine lv_bipush (v := 16) hx hb dX2_endFrameUnfed_14 (by decide) ?_
  refine lv_icmp_lt (tgt := 23) hx hb dX2_endFrameUnfed_16 (by decide) (fun c_1 => ?_) (fun c_1 => ?_)
  · refine lv_iconst (v := 0) hx hb dX2_endFrameUnfed_23 (by decide) ?_
    have hF : xEndFrame f a = ((0 : Int32), (f 7) + (1 : Int32)) := by
      unfold xEndFrame
      refine (if_pos c_1).trans ?_
      rfl
    rw [hF]
    exact KC.retz hx hb hr hlocks hK hP hD hS dX2_endFrameUnfed_24 (by decide +kernel) rfl
  · refine lv_iconst (v := 1) hx hb dX2_endFrameUnfed_19 (by decide) ?_
    refine lv_goto (tgt := 24) hx hb dX2_endFrameUnfed_20 (by decide) ?_
    have hF : xEndFrame f a = ((1 : Int32), (f 7) + (1 : Int32)) := by
      unfold xEndFrame
      refine (if_neg c_1).trans ?_
      rfl
    rw [hF]
    exact KC.retz hx hb hr hlocks hK hP hD hS dX2_endFrameUnfed_24 (by decide +kernel) rfl
def xPortsClear (f : Nat → Int32) (a : Nat → Nat → Int32)  : Int32 × Int32 × Int32 × (Nat → Int32) :=
  ((0 : Int32), (0 : Int32), (0 : Int32), upd (upd (a 4) (0 : Int32).toNatClampNeg (0 : Int32)) (1 : Int32).toNatClampNeg (0 : Int32))
set_option maxHeartbeats 4000000 in
set_option maxRecDepth 100000 in
theorem kX2_clear (l : Launch) (D : va_G) (cI : ClassId) (o : Nat → Nat) (f : Nat → Int32) (a : Nat → Nat → Int32)  : KC l yX2_clear wsX2_clear 0 [.ref (o 5)] D cI (wT cI o f a) (wT cI o (upd (upd (upd f 5 ((xPortsClear f a).1)) 6 ((xPortsClear f a).2.1)) 7 ((xPortsClear f a).2.2.1)) (ua a 4 ((xPortsClear f a).2.2.2))) none := by
  refine KC.of (cc := cX2_clear) (maxL := 1) (by decide) rfl (Nat.le_of_ble_eq_true rfl) ?_
  intro p e s m below meth c A hx hb hr hts hown hlocks hml hK hP hD hS hA ls hl
  have hl : lv_has ls 1 [(0, .ref (o 5))] := hl
  have hown : s.vm.findClass RX2 = some m.cls := hown
  have hi2 : ∀ w ∈ u_ws RX2 TX2 6, w ∈ wsX2_clear := fun w h => List.mem_cons_of_mem _ (List.mem_append_right _ h)
  refine lv_aload_n hx hb dX2_clear_0 rfl (lv_at hl 0 rfl) ?_
  refine lv_iconst (v := 0) hx hb dX2_clear_1 (by decide) ?_
  refine pu_T_f5 (v := (0 : Int32)) hx hb hts hi2 hown hK hP hD hS (hts (.fieldLink RX2 19 "InvaderBoard$Ports" "shifter" "I") (List.mem_cons_of_mem _ (List.mem_append_left _ (List.mem_of_getElem? (i := 0) rfl)))) dX2_clear_2 (fun H locs hP hD hS => ?_)
  refine lv_aload_n hx hb dX2_clear_5 rfl (lv_at hl 0 rfl) ?_
  refine lv_iconst (v := 0) hx hb dX2_clear_6 (by decide) ?_
  refine pu_T_f6 (v := (0 : Int32)) hx hb hts hi2 hown hK hP hD hS (hts (.fieldLink RX2 23 "InvaderBoard$Ports" "offset" "I") (List.mem_cons_of_mem _ (List.mem_append_left _ (List.mem_of_getElem? (i := 1) rfl)))) dX2_clear_7 (fun H locs hP hD hS => ?_)
  refine lv_aload_n hx hb dX2_clear_10 rfl (lv_at hl 0 rfl) ?_
  refine va_get (ci := 2) (v := .ref (o 7)) (C := RX2) (T := TX2) (N := 6) hx hb hts hi2 hown hK hP 0 rfl rfl 1 (by decide) (hts (.fieldLink RX2 13 "InvaderBoard$Ports" "latches" "[I") (List.mem_cons_of_mem _ (List.mem_append_left _ (List.mem_of_getElem? (i := 2) rfl)))) (fun _ h9 => h9) rfl dX2_clear_11 ?_
  refine lv_iconst (v := 0) hx hb dX2_clear_14 (by decide) ?_
  refine lv_iconst (v := 0) hx hb dX2_clear_15 (by decide) ?_
  refine pu_T_a4 hx hb hK hP hD hS (by unfold vp_in; decide) dX2_clear_16 (fun H locs hP hD hS => ?_)
  refine lv_aload_n hx hb dX2_clear_17 rfl (lv_at hl 0 rfl) ?_
  refine va_get (ci := 2) (v := .ref (o 7)) (C := RX2) (T := TX2) (N := 6) hx hb hts hi2 hown hK hP 0 rfl rfl 1 (by decide) (hts (.fieldLink RX2 13 "InvaderBoard$Ports" "latches" "[I") (List.mem_cons_of_mem _ (List.mem_append_left _ (List.mem_of_getElem? (i := 2) rfl)))) (fun _ h9 => h9) rfl dX2_clear_18 ?_
  refine lv_iconst (v := 1) hx hb dX2_clear_21 (by decide) ?_
  refine lv_iconst (v := 0) hx hb dX2_clear_22 (by decide) ?_
  refine pu_T_a4 hx hb hK hP hD hS (by unfold vp_in; decide) dX2_clear_23 (fun H locs hP hD hS => ?_)
  have hP : va_P D vwCl (wT cI o (upd (upd f 5 (0 : Int32)) 6 (0 : Int32)) (ua (ua a 4 (upd (a 4) (0 : Int32).toNatClampNeg (0 : Int32))) 4 (upd (upd (a 4) (0 : Int32).toNatClampNeg (0 : Int32)) (1 : Int32).toNatClampNeg (0 : Int32)))) H := hP
  have hD : va_D A (wT cI o (upd (upd f 5 (0 : Int32)) 6 (0 : Int32)) (ua (ua a 4 (upd (a 4) (0 : Int32).toNatClampNeg (0 : Int32))) 4 (upd (upd (a 4) (0 : Int32).toNatClampNeg (0 : Int32)) (1 : Int32).toNatClampNeg (0 : Int32)))) := hD
  refine lv_aload_n hx hb dX2_clear_24 rfl (lv_at hl 0 rfl) ?_
  refine lv_iconst (v := 0) hx hb dX2_clear_25 (by decide) ?_
  refine pu_T_f7 (v := (0 : Int32)) hx hb hts hi2 hown hK hP hD hS (hts (.fieldLink RX2 26 "InvaderBoard$Ports" "framesUnfed" "I") (List.mem_cons_of_mem _ (List.mem_append_left _ (List.mem_of_getElem? (i := 3) rfl)))) dX2_clear_26 (fun H locs hP hD hS => ?_)
  have hF : xPortsClear f a = ((0 : Int32), (0 : Int32), (0 : Int32), upd (upd (a 4) (0 : Int32).toNatClampNeg (0 : Int32)) (1 : Int32).toNatClampNeg (0 : Int32)) := rfl
  rw [hF]
  exact KC.retv hx hb hr hlocks hK hP hD hS dX2_clear_29
def xBeginAnew (g : Nat → Int32)  : (Nat → Int32) :=
  upd g 8 (0 : Int32)
set_option maxHeartbeats 4000000 in
set_option maxRecDepth 100000 in
theorem kX0_beginAnew (l : Launch) (D : va_G) (cI : ClassId) (o : Nat → Nat) (g : Nat → Int32)  : KC l yX0_beginAnew wsX0_beginAnew 0 [.ref (o 9)] D cI (wF o g) (wF o (xBeginAnew g)) none := by
  refine KC.of (cc := cX0_beginAnew) (maxL := 1) (by decide) rfl (Nat.le_of_ble_eq_true rfl) ?_
  intro p e s m below meth c A hx hb hr hts hown hlocks hml hK hP hD hS hA ls hl
  have hl : lv_has ls 1 [(0, .ref (o 9))] := hl
  have hown : s.vm.findClass RX0 = some m.cls := hown
  have hi0 : ∀ w ∈ u_ws RX0 TX0 3, w ∈ wsX0_beginAnew := fun w h => List.mem_cons_of_mem _ (List.mem_append_right _ h)
  refine lv_aload_n hx hb dX0_beginAnew_0 rfl (lv_at hl 0 rfl) ?_
  refine lv_iconst (v := 0) hx hb dX0_beginAnew_1 (by decide) ?_
  refine pu_F_g8 (v := (0 : Int32)) hx hb hts hi0 hown hK hP hD hS (hts (.fieldLink RX0 7 "InvaderBoard$Frames" "gone" "I") (List.mem_cons_of_mem _ (List.mem_append_left _ (List.mem_of_getElem? (i := 0) rfl)))) dX0_beginAnew_2 (fun H locs hP hD hS => ?_)
  have hF : xBeginAnew g = upd g 8 (0 : Int32) := rfl
  rw [hF]
  exact KC.retv hx hb hr hlocks hK hP hD hS dX0_beginAnew_5
def xDropWaiting (g : Nat → Int32)  : (Nat → Int32) :=
  upd g 10 (0 : Int32)
set_option maxHeartbeats 4000000 in
set_option maxRecDepth 100000 in
theorem kX0_dropWaiting (l : Launch) (D : va_G) (cI : ClassId) (o : Nat → Nat) (g : Nat → Int32)  : KC l yX0_dropWaiting wsX0_dropWaiting 0 [.ref (o 9)] D cI (wF o g) (wF o (xDropWaiting g)) none := by
  refine KC.of (cc := cX0_dropWaiting) (maxL := 1) (by decide) rfl (Nat.le_of_ble_eq_true rfl) ?_
  intro p e s m below meth c A hx hb hr hts hown hlocks hml hK hP hD hS hA ls hl
  have hl : lv_has ls 1 [(0, .ref (o 9))] := hl
  have hown : s.vm.findClass RX0 = some m.cls := hown
  have hi0 : ∀ w ∈ u_ws RX0 TX0 3, w ∈ wsX0_dropWaiting := fun w h => List.mem_cons_of_mem _ (List.mem_append_right _ h)
  refine lv_aload_n hx hb dX0_dropWaiting_0 rfl (lv_at hl 0 rfl) ?_
  refine lv_iconst (v := 0) hx hb dX0_dropWaiting_1 (by decide) ?_
  refine pu_F_g10 (v := (0 : Int32)) hx hb hts hi0 hown hK hP hD hS (hts (.fieldLink RX0 13 "InvaderBoard$Frames" "waiting" "I") (List.mem_cons_of_mem _ (List.mem_append_left _ (List.mem_of_getElem? (i := 0) rfl)))) dX0_dropWaiting_2 (fun H locs hP hD hS => ?_)
  have hF : xDropWaiting g = upd g 10 (0 : Int32) := rfl
  rw [hF]
  exact KC.retv hx hb hr hlocks hK hP hD hS dX0_dropWaiting_5
def xTakeWaiting (g : Nat → Int32)  : Int32 × (Nat → Int32) :=
  (g 10, upd g 10 (0 : Int32))
set_option maxHeartbeats 4000000 in
set_option maxRecDepth 100000 in
theorem kX0_takeWaiting (l : Launch) (D : va_G) (cI : ClassId) (o : Nat → Nat) (g : Nat → Int32)  : KC l yX0_takeWaiting wsX0_takeWaiting 0 [.ref (o 9)] D cI (wF o g) (wF o ((xTakeWaiting g).2)) (some (.int (xTakeWaiting g).1)) := by
  refine KC.of (cc := cX0_takeWaiting) (maxL := 2) (by decide) rfl (Nat.le_of_ble_eq_true rfl) ?_
  intro p e s m below meth c A hx hb hr hts hown hlocks hml hK hP hD hS hA ls hl
  have hl : lv_has ls 2 [(0, .ref (o 9))] := hl
  have hown : s.vm.findClass RX0 = some m.cls := hown
  have hi0 : ∀ w ∈ u_ws RX0 TX0 3, w ∈ wsX0_takeWaiting := fun w h => List.mem_cons_of_mem _ (List.mem_append_right _ h)
  refine lv_aload_n hx hb dX0_takeWaiting_0 rfl (lv_at hl 0 rfl) ?_
  refine va_get (ci := 0) (v := .int (g 10)) (C := RX0) (T := TX0) (N := 3) hx hb hts hi0 hown hK hP 0 rfl rfl 2 (by decide) (hts (.fieldLink RX0 13 "InvaderBoard$Frames" "waiting" "I") (List.mem_cons_of_mem _ (List.mem_append_left _ (List.mem_of_getElem? (i := 0) rfl)))) (fun _ h9 => h9) rfl dX0_takeWaiting_1 ?_
  refine lv_istore_n (lv' := [(1, .int _), (0, .ref _)]) hx hb dX0_takeWaiting_4 rfl hl (by decide) rfl (fun ls hl => ?_)
  refine lv_aload_n hx hb dX0_takeWaiting_5 rfl (lv_at hl 1 rfl) ?_
  refine lv_iconst (v := 0) hx hb dX0_takeWaiting_6 (by decide) ?_
  refine pu_F_g10 (v := (0 : Int32)) hx hb hts hi0 hown hK hP hD hS (hts (.fieldLink RX0 13 "InvaderBoard$Frames" "waiting" "I") (List.mem_cons_of_mem _ (List.mem_append_left _ (List.mem_of_getElem? (i := 0) rfl)))) dX0_takeWaiting_7 (fun H locs hP hD hS => ?_)
  refine lv_iload_n hx hb dX0_takeWaiting_10 rfl (lv_at hl 0 rfl) ?_
  have hF : xTakeWaiting g = (g 10, upd g 10 (0 : Int32)) := rfl
  rw [hF]
  exact KC.reti hx hb hr hlocks hK hP hD hS dX0_takeWaiting_11 rfl
def xUntil (g : Nat → Int32)  : Int32 :=
  if (16667 : Int32) ≤ (g 8) then (33333 : Int32) - (g 8)
  else (16667 : Int32) - (g 8)
set_option maxHeartbeats 4000000 in
set_option maxRecDepth 100000 in
theorem kX0_untilRequest (l : Launch) (D : va_G) (cI : ClassId) (o : Nat → Nat) (g : Nat → Int32)  : KC l yX0_untilRequest wsX0_untilRequest 0 [.ref (o 9)] D cI (wF o g) (wF o g) (some (.int (xUntil g))) := by
  refine KC.of (cc := cX0_untilRequest) (maxL := 1) (by decide) rfl (Nat.le_of_ble_eq_true rfl) ?_
  intro p e s m below meth c A hx hb hr hts hown hlocks hml hK hP hD hS hA ls hl
  have hl : lv_has ls 1 [(0, .ref (o 9))] := hl
  have hown : s.vm.findClass RX0 = some m.cls := hown
  have hi0 : ∀ w ∈ u_ws RX0 TX0 3, w ∈ wsX0_untilRequest := fun w h => List.mem_cons_of_mem _ (List.mem_append_right _ h)
  refine lv_aload_n hx hb dX0_untilRequest_0 rfl (lv_at hl 0 rfl) ?_
  refine va_get (ci := 0) (v := .int (g 8)) (C := RX0) (T := TX0) (N := 3) hx hb hts hi0 hown hK hP 0 rfl rfl 0 (by decide) (hts (.fieldLink RX0 7 "InvaderBoard$Frames" "gone" "I") (List.mem_cons_of_mem _ (List.mem_append_left _ (List.mem_of_getElem? (i := 0) rfl)))) (fun _ h9 => h9) rfl dX0_untilRequest_1 ?_
  refine lv_sipush (v := 16667) hx hb dX0_untilRequest_4 (by decide) ?_
  refine lv_icmp_ge (tgt := 16) hx hb dX0_untilRequest_7 (by decide) (fun c_1 => ?_) (fun c_1 => ?_)
  · refine lv_ldc (v := 33333) hx hb hown (hts (.constant RX0 16 33333) (List.mem_cons_of_mem _ (List.mem_append_left _ (List.mem_of_getElem? (i := 1) rfl)))) dX0_untilRequest_16 ?_
    refine lv_aload_n hx hb dX0_untilRequest_18 rfl (lv_at hl 0 rfl) ?_
    refine va_get (ci := 0) (v := .int (g 8)) (C := RX0) (T := TX0) (N := 3) hx hb hts hi0 hown hK hP 0 rfl rfl 0 (by decide) (hts (.fieldLink RX0 7 "InvaderBoard$Frames" "gone" "I") (List.mem_cons_of_mem _ (List.mem_append_left _ (List.mem_of_getElem? (i := 0) rfl)))) (fun _ h9 => h9) rfl dX0_untilRequest_19 ?_
    refine lv_isub hx hb dX0_untilRequest_22 ?_
    have hF : xUntil g = (33333 : Int32) - (g 8) := by
      unfold xUntil
      refine (if_pos c_1).trans ?_
      rfl
    rw [hF]
    exact KC.reti hx hb hr hlocks hK hP hD hS dX0_untilRequest_23 rfl
  · refine lv_sipush (v := 16667) hx hb dX0_untilRequest_10 (by decide) ?_
    refine lv_goto (tgt := 18) hx hb dX0_untilRequest_13 (by decide) ?_
    refine lv_aload_n hx hb dX0_untilRequest_18 rfl (lv_at hl 0 rfl) ?_
    refine va_get (ci := 0) (v := .int (g 8)) (C := RX0) (T := TX0) (N := 3) hx hb hts hi0 hown hK hP 0 rfl rfl 0 (by decide) (hts (.fieldLink RX0 7 "InvaderBoard$Frames" "gone" "I") (List.mem_cons_of_mem _ (List.mem_append_left _ (List.mem_of_getElem? (i := 0) rfl)))) (fun _ h9 => h9) rfl dX0_untilRequest_19 ?_
    refine lv_isub hx hb dX0_untilRequest_22 ?_
    have hF : xUntil g = (16667 : Int32) - (g 8) := by
      unfold xUntil
      refine (if_neg c_1).trans ?_
      rfl
    rw [hF]
    exact KC.reti hx hb hr hlocks hK hP hD hS dX0_untilRequest_23 rfl
def xPass (g : Nat → Int32) (p1 : Int32) : Int32 × (Nat → Int32) :=
  if (16667 : Int32) ≤ (g 8) then if (33333 : Int32) ≤ ((g 8) + p1) then ((1 : Int32), upd (upd (upd (upd g 8 ((g 8) + p1)) 8 (((g 8) + p1) - (33333 : Int32))) 9 ((g 9) + (1 : Int32))) 10 (2 : Int32))
    else ((0 : Int32), upd g 8 ((g 8) + p1))
  else if ((g 8) + p1) < (16667 : Int32) then if (33333 : Int32) ≤ ((g 8) + p1) then ((1 : Int32), upd (upd (upd (upd g 8 ((g 8) + p1)) 8 (((g 8) + p1) - (33333 : Int32))) 9 ((g 9) + (1 : Int32))) 10 (2 : Int32))
      else ((0 : Int32), upd g 8 ((g 8) + p1))
    else if (33333 : Int32) ≤ ((g 8) + p1) then ((1 : Int32), upd (upd (upd (upd (upd g 8 ((g 8) + p1)) 10 (1 : Int32)) 8 (((g 8) + p1) - (33333 : Int32))) 9 ((g 9) + (1 : Int32))) 10 (2 : Int32))
      else ((0 : Int32), upd (upd g 8 ((g 8) + p1)) 10 (1 : Int32))
set_option maxHeartbeats 4000000 in
set_option maxRecDepth 100000 in
theorem kX0_pass (l : Launch) (D : va_G) (cI : ClassId) (o : Nat → Nat) (g : Nat → Int32) (p1 : Int32) : KC l yX0_pass wsX0_pass 0 [.ref (o 9), .int p1] D cI (wF o g) (wF o ((xPass g p1).2)) (some (.int (xPass g p1).1)) := by
  refine KC.of (cc := cX0_pass) (maxL := 3) (by decide) rfl (Nat.le_of_ble_eq_true rfl) ?_
  intro p e s m below meth c A hx hb hr hts hown hlocks hml hK hP hD hS hA ls hl
  have hl : lv_has ls 3 [(0, .ref (o 9)), (1, .int p1)] := hl
  have hown : s.vm.findClass RX0 = some m.cls := hown
  have hi0 : ∀ w ∈ u_ws RX0 TX0 3, w ∈ wsX0_pass := fun w h => List.mem_cons_of_mem _ (List.mem_append_right _ h)
  refine lv_aload_n hx hb dX0_pass_0 rfl (lv_at hl 0 rfl) ?_
  refine va_get (ci := 0) (v := .int (g 8)) (C := RX0) (T := TX0) (N := 3) hx hb hts hi0 hown hK hP 0 rfl rfl 0 (by decide) (hts (.fieldLink RX0 7 "InvaderBoard$Frames" "gone" "I") (List.mem_cons_of_mem _ (List.mem_append_left _ (List.mem_of_getElem? (i := 0) rfl)))) (fun _ h9 => h9) rfl dX0_pass_1 ?_
  refine lv_sipush (v := 16667) hx hb dX0_pass_4 (by decide) ?_
  refine lv_icmp_ge (tgt := 14) hx hb dX0_pass_7 (by decide) (fun c_1 => ?_) (fun c_1 => ?_)
  · refine lv_iconst (v := 0) hx hb dX0_pass_14 (by decide) ?_
    refine lv_istore_n (lv' := [(2, .int _), (0, .ref _), (1, .int _)]) hx hb dX0_pass_15 rfl hl (by decide) rfl (fun ls hl => ?_)
    refine lv_aload_n hx hb dX0_pass_16 rfl (lv_at hl 1 rfl) ?_
    refine lv_dup hx hb dX0_pass_17 rfl ?_
    refine va_get (ci := 0) (v := .int (g 8)) (C := RX0) (T := TX0) (N := 3) hx hb hts hi0 hown hK hP 0 rfl rfl 0 (by decide) (hts (.fieldLink RX0 7 "InvaderBoard$Frames" "gone" "I") (List.mem_cons_of_mem _ (List.mem_append_left _ (List.mem_of_getElem? (i := 0) rfl)))) (fun _ h9 => h9) rfl dX0_pass_18 ?_
    refine lv_iload_n hx hb dX0_pass_21 rfl (lv_at hl 2 rfl) ?_
    refine lv_iadd hx hb dX0_pass_22 ?_
    refine pu_F_g8 (v := (g 8) + p1) hx hb hts hi0 hown hK hP hD hS (hts (.fieldLink RX0 7 "InvaderBoard$Frames" "gone" "I") (List.mem_cons_of_mem _ (List.mem_append_left _ (List.mem_of_getElem? (i := 0) rfl)))) dX0_pass_23 (fun H locs hP hD hS => ?_)
    refine lv_iload_n hx hb dX0_pass_26 rfl (lv_at hl 0 rfl) ?_
    refine lv_if_eq (tgt := 45) hx hb dX0_pass_27 (by decide) (fun c_2 => ?_) (fun c_2 => ?_)
    · refine lv_aload_n hx hb dX0_pass_45 rfl (lv_at hl 1 rfl) ?_
      refine va_get (ci := 0) (v := .int ((g 8) + p1)) (C := RX0) (T := TX0) (N := 3) hx hb hts hi0 hown hK hP 0 rfl rfl 0 (by decide) (hts (.fieldLink RX0 7 "InvaderBoard$Frames" "gone" "I") (List.mem_cons_of_mem _ (List.mem_append_left _ (List.mem_of_getElem? (i := 0) rfl)))) (fun _ h9 => h9) rfl dX0_pass_46 ?_
      refine lv_ldc (v := 33333) hx hb hown (hts (.constant RX0 16 33333) (List.mem_cons_of_mem _ (List.mem_append_left _ (List.mem_of_getElem? (i := 2) rfl)))) dX0_pass_49 ?_
      refine lv_icmp_ge (tgt := 56) hx hb dX0_pass_51 (by decide) (fun c_3 => ?_) (fun c_3 => ?_)
      · refine lv_aload_n hx hb dX0_pass_56 rfl (lv_at hl 1 rfl) ?_
        refine lv_dup hx hb dX0_pass_57 rfl ?_
        refine va_get (ci := 0) (v := .int ((g 8) + p1)) (C := RX0) (T := TX0) (N := 3) hx hb hts hi0 hown hK hP 0 rfl rfl 0 (by decide) (hts (.fieldLink RX0 7 "InvaderBoard$Frames" "gone" "I") (List.mem_cons_of_mem _ (List.mem_append_left _ (List.mem_of_getElem? (i := 0) rfl)))) (fun _ h9 => h9) rfl dX0_pass_58 ?_
        refine lv_ldc (v := 33333) hx hb hown (hts (.constant RX0 16 33333) (List.mem_cons_of_mem _ (List.mem_append_left _ (List.mem_of_getElem? (i := 2) rfl)))) dX0_pass_61 ?_
        refine lv_isub hx hb dX0_pass_63 ?_
        refine pu_F_g8 (v := ((g 8) + p1) - (33333 : Int32)) hx hb hts hi0 hown hK hP hD hS (hts (.fieldLink RX0 7 "InvaderBoard$Frames" "gone" "I") (List.mem_cons_of_mem _ (List.mem_append_left _ (List.mem_of_getElem? (i := 0) rfl)))) dX0_pass_64 (fun H locs hP hD hS => ?_)
        refine lv_aload_n hx hb dX0_pass_67 rfl (lv_at hl 1 rfl) ?_
        refine lv_dup hx hb dX0_pass_68 rfl ?_
        refine va_get (ci := 0) (v := .int (g 9)) (C := RX0) (T := TX0) (N := 3) hx hb hts hi0 hown hK hP 0 rfl rfl 1 (by decide) (hts (.fieldLink RX0 17 "InvaderBoard$Frames" "ended" "I") (List.mem_cons_of_mem _ (List.mem_append_left _ (List.mem_of_getElem? (i := 3) rfl)))) (fun _ h9 => h9) rfl dX0_pass_69 ?_
        refine lv_iconst (v := 1) hx hb dX0_pass_72 (by decide) ?_
        refine lv_iadd hx hb dX0_pass_73 ?_
        refine pu_F_g9 (v := (g 9) + (1 : Int32)) hx hb hts hi0 hown hK hP hD hS (hts (.fieldLink RX0 17 "InvaderBoard$Frames" "ended" "I") (List.mem_cons_of_mem _ (List.mem_append_left _ (List.mem_of_getElem? (i := 3) rfl)))) dX0_pass_74 (fun H locs hP hD hS => ?_)
        refine lv_aload_n hx hb dX0_pass_77 rfl (lv_at hl 1 rfl) ?_
        refine lv_iconst (v := 2) hx hb dX0_pass_78 (by decide) ?_
        refine pu_F_g10 (v := (2 : Int32)) hx hb hts hi0 hown hK hP hD hS (hts (.fieldLink RX0 13 "InvaderBoard$Frames" "waiting" "I") (List.mem_cons_of_mem _ (List.mem_append_left _ (List.mem_of_getElem? (i := 1) rfl)))) dX0_pass_79 (fun H locs hP hD hS => ?_)
        refine lv_iconst (v := 1) hx hb dX0_pass_82 (by decide) ?_
        have hF : xPass g p1 = ((1 : Int32), upd (upd (upd (upd g 8 ((g 8) + p1)) 8 (((g 8) + p1) - (33333 : Int32))) 9 ((g 9) + (1 : Int32))) 10 (2 : Int32)) := by
          unfold xPass
          refine (if_pos c_1).trans ?_
          refine (if_pos c_3).trans ?_
          rfl
        rw [hF]
        exact KC.retz hx hb hr hlocks hK hP hD hS dX0_pass_83 (by decide +kernel) rfl
      · refine lv_iconst (v := 0) hx hb dX0_pass_54 (by decide) ?_
        have hF : xPass g p1 = ((0 : Int32), upd g 8 ((g 8) + p1)) := by
          unfold xPass
          refine (if_pos c_1).trans ?_
          refine (if_neg c_3).trans ?_
          rfl
        rw [hF]
        exact KC.retz hx hb hr hlocks hK hP hD hS dX0_pass_55 (by decide +kernel) rfl
    · exact absurd c_2 (by decide)
  · refine lv_iconst (v := 1) hx hb dX0_pass_10 (by decide) ?_
    refine lv_goto (tgt := 15) hx hb dX0_pass_11 (by decide) ?_
    refine lv_istore_n (lv' := [(2, .int _), (0, .ref _), (1, .int _)]) hx hb dX0_pass_15 rfl hl (by decide) rfl (fun ls hl => ?_)
    refine lv_aload_n hx hb dX0_pass_16 rfl (lv_at hl 1 rfl) ?_
    refine lv_dup hx hb dX0_pass_17 rfl ?_
    refine va_get (ci := 0) (v := .int (g 8)) (C := RX0) (T := TX0) (N := 3) hx hb hts hi0 hown hK hP 0 rfl rfl 0 (by decide) (hts (.fieldLink RX0 7 "InvaderBoard$Frames" "gone" "I") (List.mem_cons_of_mem _ (List.mem_append_left _ (List.mem_of_getElem? (i := 0) rfl)))) (fun _ h9 => h9) rfl dX0_pass_18 ?_
    refine lv_iload_n hx hb dX0_pass_21 rfl (lv_at hl 2 rfl) ?_
    refine lv_iadd hx hb dX0_pass_22 ?_
    refine pu_F_g8 (v := (g 8) + p1) hx hb hts hi0 hown hK hP hD hS (hts (.fieldLink RX0 7 "InvaderBoard$Frames" "gone" "I") (List.mem_cons_of_mem _ (List.mem_append_left _ (List.mem_of_getElem? (i := 0) rfl)))) dX0_pass_23 (fun H locs hP hD hS => ?_)
    refine lv_iload_n hx hb dX0_pass_26 rfl (lv_at hl 0 rfl) ?_
    refine lv_if_eq (tgt := 45) hx hb dX0_pass_27 (by decide) (fun c_4 => ?_) (fun c_4 => ?_)
    · exact absurd c_4 (by decide)
    · refine lv_aload_n hx hb dX0_pass_30 rfl (lv_at hl 1 rfl) ?_
      refine va_get (ci := 0) (v := .int ((g 8) + p1)) (C := RX0) (T := TX0) (N := 3) hx hb hts hi0 hown hK hP 0 rfl rfl 0 (by decide) (hts (.fieldLink RX0 7 "InvaderBoard$Frames" "gone" "I") (List.mem_cons_of_mem _ (List.mem_append_left _ (List.mem_of_getElem? (i := 0) rfl)))) (fun _ h9 => h9) rfl dX0_pass_31 ?_
      refine lv_sipush (v := 16667) hx hb dX0_pass_34 (by decide) ?_
      refine lv_icmp_lt (tgt := 45) hx hb dX0_pass_37 (by decide) (fun c_5 => ?_) (fun c_5 => ?_)
      · refine lv_aload_n hx hb dX0_pass_45 rfl (lv_at hl 1 rfl) ?_
        refine va_get (ci := 0) (v := .int ((g 8) + p1)) (C := RX0) (T := TX0) (N := 3) hx hb hts hi0 hown hK hP 0 rfl rfl 0 (by decide) (hts (.fieldLink RX0 7 "InvaderBoard$Frames" "gone" "I") (List.mem_cons_of_mem _ (List.mem_append_left _ (List.mem_of_getElem? (i := 0) rfl)))) (fun _ h9 => h9) rfl dX0_pass_46 ?_
        refine lv_ldc (v := 33333) hx hb hown (hts (.constant RX0 16 33333) (List.mem_cons_of_mem _ (List.mem_append_left _ (List.mem_of_getElem? (i := 2) rfl)))) dX0_pass_49 ?_
        refine lv_icmp_ge (tgt := 56) hx hb dX0_pass_51 (by decide) (fun c_6 => ?_) (fun c_6 => ?_)
        · refine lv_aload_n hx hb dX0_pass_56 rfl (lv_at hl 1 rfl) ?_
          refine lv_dup hx hb dX0_pass_57 rfl ?_
          refine va_get (ci := 0) (v := .int ((g 8) + p1)) (C := RX0) (T := TX0) (N := 3) hx hb hts hi0 hown hK hP 0 rfl rfl 0 (by decide) (hts (.fieldLink RX0 7 "InvaderBoard$Frames" "gone" "I") (List.mem_cons_of_mem _ (List.mem_append_left _ (List.mem_of_getElem? (i := 0) rfl)))) (fun _ h9 => h9) rfl dX0_pass_58 ?_
          refine lv_ldc (v := 33333) hx hb hown (hts (.constant RX0 16 33333) (List.mem_cons_of_mem _ (List.mem_append_left _ (List.mem_of_getElem? (i := 2) rfl)))) dX0_pass_61 ?_
          refine lv_isub hx hb dX0_pass_63 ?_
          refine pu_F_g8 (v := ((g 8) + p1) - (33333 : Int32)) hx hb hts hi0 hown hK hP hD hS (hts (.fieldLink RX0 7 "InvaderBoard$Frames" "gone" "I") (List.mem_cons_of_mem _ (List.mem_append_left _ (List.mem_of_getElem? (i := 0) rfl)))) dX0_pass_64 (fun H locs hP hD hS => ?_)
          refine lv_aload_n hx hb dX0_pass_67 rfl (lv_at hl 1 rfl) ?_
          refine lv_dup hx hb dX0_pass_68 rfl ?_
          refine va_get (ci := 0) (v := .int (g 9)) (C := RX0) (T := TX0) (N := 3) hx hb hts hi0 hown hK hP 0 rfl rfl 1 (by decide) (hts (.fieldLink RX0 17 "InvaderBoard$Frames" "ended" "I") (List.mem_cons_of_mem _ (List.mem_append_left _ (List.mem_of_getElem? (i := 3) rfl)))) (fun _ h9 => h9) rfl dX0_pass_69 ?_
          refine lv_iconst (v := 1) hx hb dX0_pass_72 (by decide) ?_
          refine lv_iadd hx hb dX0_pass_73 ?_
          refine pu_F_g9 (v := (g 9) + (1 : Int32)) hx hb hts hi0 hown hK hP hD hS (hts (.fieldLink RX0 17 "InvaderBoard$Frames" "ended" "I") (List.mem_cons_of_mem _ (List.mem_append_left _ (List.mem_of_getElem? (i := 3) rfl)))) dX0_pass_74 (fun H locs hP hD hS => ?_)
          refine lv_aload_n hx hb dX0_pass_77 rfl (lv_at hl 1 rfl) ?_
          refine lv_iconst (v := 2) hx hb dX0_pass_78 (by decide) ?_
          refine pu_F_g10 (v := (2 : Int32)) hx hb hts hi0 hown hK hP hD hS (hts (.fieldLink RX0 13 "InvaderBoard$Frames" "waiting" "I") (List.mem_cons_of_mem _ (List.mem_append_left _ (List.mem_of_getElem? (i := 1) rfl)))) dX0_pass_79 (fun H locs hP hD hS => ?_)
          refine lv_iconst (v := 1) hx hb dX0_pass_82 (by decide) ?_
          have hF : xPass g p1 = ((1 : Int32), upd (upd (upd (upd g 8 ((g 8) + p1)) 8 (((g 8) + p1) - (33333 : Int32))) 9 ((g 9) + (1 : Int32))) 10 (2 : Int32)) := by
            unfold xPass
            refine (if_neg c_1).trans ?_
            refine (if_pos c_5).trans ?_
            refine (if_pos c_6).trans ?_
            rfl
          rw [hF]
          exact KC.retz hx hb hr hlocks hK hP hD hS dX0_pass_83 (by decide +kernel) rfl
        · refine lv_iconst (v := 0) hx hb dX0_pass_54 (by decide) ?_
          have hF : xPass g p1 = ((0 : Int32), upd g 8 ((g 8) + p1)) := by
            unfold xPass
            refine (if_neg c_1).trans ?_
            refine (if_pos c_5).trans ?_
            refine (if_neg c_6).trans ?_
            rfl
          rw [hF]
          exact KC.retz hx hb hr hlocks hK hP hD hS dX0_pass_55 (by decide +kernel) rfl
      · refine lv_aload_n hx hb dX0_pass_40 rfl (lv_at hl 1 rfl) ?_
        refine lv_iconst (v := 1) hx hb dX0_pass_41 (by decide) ?_
        refine pu_F_g10 (v := (1 : Int32)) hx hb hts hi0 hown hK hP hD hS (hts (.fieldLink RX0 13 "InvaderBoard$Frames" "waiting" "I") (List.mem_cons_of_mem _ (List.mem_append_left _ (List.mem_of_getElem? (i := 1) rfl)))) dX0_pass_42 (fun H locs hP hD hS => ?_)
        refine lv_aload_n hx hb dX0_pass_45 rfl (lv_at hl 1 rfl) ?_
        refine va_get (ci := 0) (v := .int ((g 8) + p1)) (C := RX0) (T := TX0) (N := 3) hx hb hts hi0 hown hK hP 0 rfl rfl 0 (by decide) (hts (.fieldLink RX0 7 "InvaderBoard$Frames" "gone" "I") (List.mem_cons_of_mem _ (List.mem_append_left _ (List.mem_of_getElem? (i := 0) rfl)))) (fun _ h9 => h9) rfl dX0_pass_46 ?_
        refine lv_ldc (v := 33333) hx hb hown (hts (.constant RX0 16 33333) (List.mem_cons_of_mem _ (List.mem_append_left _ (List.mem_of_getElem? (i := 2) rfl)))) dX0_pass_49 ?_
        refine lv_icmp_ge (tgt := 56) hx hb dX0_pass_51 (by decide) (fun c_7 => ?_) (fun c_7 => ?_)
        · refine lv_aload_n hx hb dX0_pass_56 rfl (lv_at hl 1 rfl) ?_
          refine lv_dup hx hb dX0_pass_57 rfl ?_
          refine va_get (ci := 0) (v := .int ((g 8) + p1)) (C := RX0) (T := TX0) (N := 3) hx hb hts hi0 hown hK hP 0 rfl rfl 0 (by decide) (hts (.fieldLink RX0 7 "InvaderBoard$Frames" "gone" "I") (List.mem_cons_of_mem _ (List.mem_append_left _ (List.mem_of_getElem? (i := 0) rfl)))) (fun _ h9 => h9) rfl dX0_pass_58 ?_
          refine lv_ldc (v := 33333) hx hb hown (hts (.constant RX0 16 33333) (List.mem_cons_of_mem _ (List.mem_append_left _ (List.mem_of_getElem? (i := 2) rfl)))) dX0_pass_61 ?_
          refine lv_isub hx hb dX0_pass_63 ?_
          refine pu_F_g8 (v := ((g 8) + p1) - (33333 : Int32)) hx hb hts hi0 hown hK hP hD hS (hts (.fieldLink RX0 7 "InvaderBoard$Frames" "gone" "I") (List.mem_cons_of_mem _ (List.mem_append_left _ (List.mem_of_getElem? (i := 0) rfl)))) dX0_pass_64 (fun H locs hP hD hS => ?_)
          refine lv_aload_n hx hb dX0_pass_67 rfl (lv_at hl 1 rfl) ?_
          refine lv_dup hx hb dX0_pass_68 rfl ?_
          refine va_get (ci := 0) (v := .int (g 9)) (C := RX0) (T := TX0) (N := 3) hx hb hts hi0 hown hK hP 0 rfl rfl 1 (by decide) (hts (.fieldLink RX0 17 "InvaderBoard$Frames" "ended" "I") (List.mem_cons_of_mem _ (List.mem_append_left _ (List.mem_of_getElem? (i := 3) rfl)))) (fun _ h9 => h9) rfl dX0_pass_69 ?_
          refine lv_iconst (v := 1) hx hb dX0_pass_72 (by decide) ?_
          refine lv_iadd hx hb dX0_pass_73 ?_
          refine pu_F_g9 (v := (g 9) + (1 : Int32)) hx hb hts hi0 hown hK hP hD hS (hts (.fieldLink RX0 17 "InvaderBoard$Frames" "ended" "I") (List.mem_cons_of_mem _ (List.mem_append_left _ (List.mem_of_getElem? (i := 3) rfl)))) dX0_pass_74 (fun H locs hP hD hS => ?_)
          refine lv_aload_n hx hb dX0_pass_77 rfl (lv_at hl 1 rfl) ?_
          refine lv_iconst (v := 2) hx hb dX0_pass_78 (by decide) ?_
          refine pu_F_g10 (v := (2 : Int32)) hx hb hts hi0 hown hK hP hD hS (hts (.fieldLink RX0 13 "InvaderBoard$Frames" "waiting" "I") (List.mem_cons_of_mem _ (List.mem_append_left _ (List.mem_of_getElem? (i := 1) rfl)))) dX0_pass_79 (fun H locs hP hD hS => ?_)
          refine lv_iconst (v := 1) hx hb dX0_pass_82 (by decide) ?_
          have hF : xPass g p1 = ((1 : Int32), upd (upd (upd (upd (upd g 8 ((g 8) + p1)) 10 (1 : Int32)) 8 (((g 8) + p1) - (33333 : Int32))) 9 ((g 9) + (1 : Int32))) 10 (2 : Int32)) := by
            unfold xPass
            refine (if_neg c_1).trans ?_
            refine (if_neg c_5).trans ?_
            refine (if_pos c_7).trans ?_
            rfl
          rw [hF]
          exact KC.retz hx hb hr hlocks hK hP hD hS dX0_pass_83 (by decide +kernel) rfl
        · refine lv_iconst (v := 0) hx hb dX0_pass_54 (by decide) ?_
          have hF : xPass g p1 = ((0 : Int32), upd (upd g 8 ((g 8) + p1)) 10 (1 : Int32)) := by
            unfold xPass
            refine (if_neg c_1).trans ?_
            refine (if_neg c_5).trans ?_
            refine (if_neg c_7).trans ?_
            rfl
          rw [hF]
          exact KC.retz hx hb hr hlocks hK hP hD hS dX0_pass_55 (by decide +kernel) rfl
