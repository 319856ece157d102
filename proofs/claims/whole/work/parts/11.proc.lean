def xFlagsOf  (p1 : Int32) : Int32 :=
  if p1 = 0 then if (xBitCount p1) &&& (1 : Int32) = 0 then (((p1 &&& (128 : Int32)) ||| (64 : Int32)) ||| (4 : Int32)) ||| (2 : Int32)
    else (((p1 &&& (128 : Int32)) ||| (64 : Int32)) ||| (0 : Int32)) ||| (2 : Int32)
  else if (xBitCount p1) &&& (1 : Int32) = 0 then (((p1 &&& (128 : Int32)) ||| (0 : Int32)) ||| (4 : Int32)) ||| (2 : Int32)
    else (((p1 &&& (128 : Int32)) ||| (0 : Int32)) ||| (0 : Int32)) ||| (2 : Int32)
set_option maxHeartbeats 4000000 in
set_option maxRecDepth 100000 in
theorem kX3_flagsOf (l : Launch) (D : va_G) (cI : ClassId)  (p1 : Int32) : KC l yX3_flagsOf wsX3_flagsOf 1 [.int p1] D cI ([]) ([]) (some (.int (xFlagsOf p1))) := by
  refine KC.of (cc := cX3_flagsOf) (maxL := 3) (by decide) rfl (Nat.le_of_ble_eq_true rfl) ?_
  intro p e s m below meth c A hx hb hr hts hown hlocks hml hK hP hD hS hA ls hl
  have hl : lv_has ls 3 [(0, .int p1)] := hl
  have hown : s.vm.findClass RX3 = some m.cls := hown
  refine lv_iload_n hx hb dX3_flagsOf_0 rfl (lv_at hl 0 rfl) ?_
  refine lv_if_ne (tgt := 9) hx hb dX3_flagsOf_1 (by decide) (fun c_1 => ?_) (fun c_1 => ?_)
  · refine lv_iconst (v := 0) hx hb dX3_flagsOf_9 (by decide) ?_
    refine lv_istore_n (lv' := [(1, .int _), (0, .int _)]) hx hb dX3_flagsOf_10 rfl hl (by decide) rfl (fun ls hl => ?_)
    refine lv_iload_n hx hb dX3_flagsOf_11 rfl (lv_at hl 1 rfl) ?_
    refine KC.callS (rest := []) (kJ6_bitCount_0f7a4 l D cI p1) (va_cwS 1 hts gX3_flagsOf_J6_bitCount_0f7a4 rfl rfl rfl (by decide +kernel) ⟨Nat.le_of_ble_eq_true rfl, Nat.le_of_ble_eq_true rfl⟩) ⟨hx, hb, hml, hown, hts⟩ hK hP hD hS hA rfl hl.1 rfl (Nat.le_of_ble_eq_true rfl) dX3_flagsOf_12 ⟨Nat.zero_le _, Nat.zero_le _⟩ (fun H locs hP hD hS => ?_)
    refine lv_iconst (v := 1) hx hb dX3_flagsOf_15 (by decide) ?_
    refine lv_iand hx hb dX3_flagsOf_16 ?_
    refine lv_if_ne (tgt := 24) hx hb dX3_flagsOf_17 (by decide) (fun c_2 => ?_) (fun c_2 => ?_)
    · refine lv_iconst (v := 0) hx hb dX3_flagsOf_24 (by decide) ?_
      refine lv_istore_n (lv' := [(2, .int _), (1, .int _), (0, .int _)]) hx hb dX3_flagsOf_25 rfl hl (by decide) rfl (fun ls hl => ?_)
      refine lv_iload_n hx hb dX3_flagsOf_26 rfl (lv_at hl 2 rfl) ?_
      refine lv_sipush (v := 128) hx hb dX3_flagsOf_27 (by decide) ?_
      refine lv_iand hx hb dX3_flagsOf_30 ?_
      refine lv_iload_n hx hb dX3_flagsOf_31 rfl (lv_at hl 1 rfl) ?_
      refine lv_ior hx hb dX3_flagsOf_32 ?_
      refine lv_iload_n hx hb dX3_flagsOf_33 rfl (lv_at hl 0 rfl) ?_
      refine lv_ior hx hb dX3_flagsOf_34 ?_
      refine lv_iconst (v := 2) hx hb dX3_flagsOf_35 (by decide) ?_
      refine lv_ior hx hb dX3_flagsOf_36 ?_
      have hF : xFlagsOf p1 = (((p1 &&& (128 : Int32)) ||| (0 : Int32)) ||| (0 : Int32)) ||| (2 : Int32) := by
        unfold xFlagsOf
        refine (if_neg c_1).trans ?_
        refine (if_neg c_2).trans ?_
        rfl
      rw [hF]
      exact KC.reti hx hb hr hlocks hK hP hD hS dX3_flagsOf_37 rfl
    · refine lv_iconst (v := 4) hx hb dX3_flagsOf_20 (by decide) ?_
      refine lv_goto (tgt := 25) hx hb dX3_flagsOf_21 (by decide) ?_
      refine lv_istore_n (lv' := [(2, .int _), (1, .int _), (0, .int _)]) hx hb dX3_flagsOf_25 rfl hl (by decide) rfl (fun ls hl => ?_)
      refine lv_iload_n hx hb dX3_flagsOf_26 rfl (lv_at hl 2 rfl) ?_
      refine lv_sipush (v := 128) hx hb dX3_flagsOf_27 (by decide) ?_
      refine lv_iand hx hb dX3_flagsOf_30 ?_
      refine lv_iload_n hx hb dX3_flagsOf_31 rfl (lv_at hl 1 rfl) ?_
      refine lv_ior hx hb dX3_flagsOf_32 ?_
      refine lv_iload_n hx hb dX3_flagsOf_33 rfl (lv_at hl 0 rfl) ?_
      refine lv_ior hx hb dX3_flagsOf_34 ?_
      refine lv_iconst (v := 2) hx hb dX3_flagsOf_35 (by decide) ?_
      refine lv_ior hx hb dX3_flagsOf_36 ?_
      have hF : xFlagsOf p1 = (((p1 &&& (128 : Int32)) ||| (0 : Int32)) ||| (4 : Int32)) ||| (2 : Int32) := by
        unfold xFlagsOf
        refine (if_neg c_1).trans ?_
        refine (if_pos c_2).trans ?_
        rfl
      rw [hF]
      exact KC.reti hx hb hr hlocks hK hP hD hS dX3_flagsOf_37 rfl
  · refine lv_bipush (v := 64) hx hb dX3_flagsOf_4 (by decide) ?_
    refine lv_goto (tgt := 10) hx hb dX3_flagsOf_6 (by decide) ?_
    refine lv_istore_n (lv' := [(1, .int _), (0, .int _)]) hx hb dX3_flagsOf_10 rfl hl (by decide) rfl (fun ls hl => ?_)
    refine lv_iload_n hx hb dX3_flagsOf_11 rfl (lv_at hl 1 rfl) ?_
    refine KC.callS (rest := []) (kJ6_bitCount_0f7a4 l D cI p1) (va_cwS 1 hts gX3_flagsOf_J6_bitCount_0f7a4 rfl rfl rfl (by decide +kernel) ⟨Nat.le_of_ble_eq_true rfl, Nat.le_of_ble_eq_true rfl⟩) ⟨hx, hb, hml, hown, hts⟩ hK hP hD hS hA rfl hl.1 rfl (Nat.le_of_ble_eq_true rfl) dX3_flagsOf_12 ⟨Nat.zero_le _, Nat.zero_le _⟩ (fun H locs hP hD hS => ?_)
    refine lv_iconst (v := 1) hx hb dX3_flagsOf_15 (by decide) ?_
    refine lv_iand hx hb dX3_flagsOf_16 ?_
    refine lv_if_ne (tgt := 24) hx hb dX3_flagsOf_17 (by decide) (fun c_3 => ?_) (fun c_3 => ?_)
    · refine lv_iconst (v := 0) hx hb dX3_flagsOf_24 (by decide) ?_
      refine lv_istore_n (lv' := [(2, .int _), (1, .int _), (0, .int _)]) hx hb dX3_flagsOf_25 rfl hl (by decide) rfl (fun ls hl => ?_)
      refine lv_iload_n hx hb dX3_flagsOf_26 rfl (lv_at hl 2 rfl) ?_
      refine lv_sipush (v := 128) hx hb dX3_flagsOf_27 (by decide) ?_
      refine lv_iand hx hb dX3_flagsOf_30 ?_
      refine lv_iload_n hx hb dX3_flagsOf_31 rfl (lv_at hl 1 rfl) ?_
      refine lv_ior hx hb dX3_flagsOf_32 ?_
      refine lv_iload_n hx hb dX3_flagsOf_33 rfl (lv_at hl 0 rfl) ?_
      refine lv_ior hx hb dX3_flagsOf_34 ?_
      refine lv_iconst (v := 2) hx hb dX3_flagsOf_35 (by decide) ?_
      refine lv_ior hx hb dX3_flagsOf_36 ?_
      have hF : xFlagsOf p1 = (((p1 &&& (128 : Int32)) ||| (64 : Int32)) ||| (0 : Int32)) ||| (2 : Int32) := by
        unfold xFlagsOf
        refine (if_pos c_1).trans ?_
        refine (if_neg c_3).trans ?_
        rfl
      rw [hF]
      exact KC.reti hx hb hr hlocks hK hP hD hS dX3_flagsOf_37 rfl
    · refine lv_iconst (v := 4) hx hb dX3_flagsOf_20 (by decide) ?_
      refine lv_goto (tgt := 25) hx hb dX3_flagsOf_21 (by decide) ?_
      refine lv_istore_n (lv' := [(2, .int _), (1, .int _), (0, .int _)]) hx hb dX3_flagsOf_25 rfl hl (by decide) rfl (fun ls hl => ?_)
      refine lv_iload_n hx hb dX3_flagsOf_26 rfl (lv_at hl 2 rfl) ?_
      refine lv_sipush (v := 128) hx hb dX3_flagsOf_27 (by decide) ?_
      refine lv_iand hx hb dX3_flagsOf_30 ?_
      refine lv_iload_n hx hb dX3_flagsOf_31 rfl (lv_at hl 1 rfl) ?_
      refine lv_ior hx hb dX3_flagsOf_32 ?_
      refine lv_iload_n hx hb dX3_flagsOf_33 rfl (lv_at hl 0 rfl) ?_
      refine lv_ior hx hb dX3_flagsOf_34 ?_
      refine lv_iconst (v := 2) hx hb dX3_flagsOf_35 (by decide) ?_
      refine lv_ior hx hb dX3_flagsOf_36 ?_
      have hF : xFlagsOf p1 = (((p1 &&& (128 : Int32)) ||| (64 : Int32)) ||| (4 : Int32)) ||| (2 : Int32) := by
        unfold xFlagsOf
        refine (if_pos c_1).trans ?_
        refine (if_pos c_3).trans ?_
        rfl
      rw [hF]
      exact KC.reti hx hb hr hlocks hK hP hD hS dX3_flagsOf_37 rfl
def xPairAt (f : Nat → Int32) (a : Nat → Nat → Int32) (p1 : Int32) : Int32 :=
  (((a 2) (p1 &&& (6 : Int32)).toNatClampNeg) <<< ((8 : Int32) &&& 31)) ||| ((a 2) ((p1 &&& (6 : Int32)) + (1 : Int32)).toNatClampNeg)
set_option maxHeartbeats 4000000 in
set_option maxRecDepth 100000 in
theorem kX3_pairAt (l : Launch) (D : va_G) (cI : ClassId) (o : Nat → Nat) (f : Nat → Int32) (a : Nat → Nat → Int32) (p1 : Int32) : KC l yX3_pairAt wsX3_pairAt 0 [.ref (o 0), .int p1] D cI (wP cI o f a) (wP cI o f a) (some (.int (xPairAt f a p1))) := by
  refine KC.of (cc := cX3_pairAt) (maxL := 3) (by decide) rfl (Nat.le_of_ble_eq_true rfl) ?_
  intro p e s m below meth c A hx hb hr hts hown hlocks hml hK hP hD hS hA ls hl
  have hl : lv_has ls 3 [(0, .ref (o 0)), (1, .int p1)] := hl
  have hown : s.vm.findClass RX3 = some m.cls := hown
  have hi3 : ∀ w ∈ u_ws RX3 TX3 9, w ∈ wsX3_pairAt := fun w h => List.mem_cons_of_mem _ (List.mem_append_right _ h)
  refine lv_iload_n hx hb dX3_pairAt_0 rfl (lv_at hl 1 rfl) ?_
  refine lv_bipush (v := 6) hx hb dX3_pairAt_1 (by decide) ?_
  refine lv_iand hx hb dX3_pairAt_3 ?_
  refine lv_istore_n (lv' := [(2, .int _), (0, .ref _), (1, .int _)]) hx hb dX3_pairAt_4 rfl hl (by decide) rfl (fun ls hl => ?_)
  refine lv_aload_n hx hb dX3_pairAt_5 rfl (lv_at hl 1 rfl) ?_
  refine va_get (ci := 3) (v := .ref (o 1)) (C := RX3) (T := TX3) (N := 9) hx hb hts hi3 hown hK hP 0 rfl rfl 2 (by decide) (hts (.fieldLink RX3 9 "InvaderBoard$Processor" "registers" "[I") (List.mem_cons_of_mem _ (List.mem_append_left _ (List.mem_of_getElem? (i := 0) rfl)))) (fun _ h9 => h9) rfl dX3_pairAt_6 ?_
  refine lv_iload_n hx hb dX3_pairAt_9 rfl (lv_at hl 0 rfl) ?_
  refine va_iald (f := a 2) hx hb hK hP 1 0 rfl rfl (xin_6 _) dX3_pairAt_10 ?_
  refine lv_bipush (v := 8) hx hb dX3_pairAt_11 (by decide) ?_
  refine lv_ishl hx hb dX3_pairAt_13 ?_
  refine lv_aload_n hx hb dX3_pairAt_14 rfl (lv_at hl 1 rfl) ?_
  refine va_get (ci := 3) (v := .ref (o 1)) (C := RX3) (T := TX3) (N := 9) hx hb hts hi3 hown hK hP 0 rfl rfl 2 (by decide) (hts (.fieldLink RX3 9 "InvaderBoard$Processor" "registers" "[I") (List.mem_cons_of_mem _ (List.mem_append_left _ (List.mem_of_getElem? (i := 0) rfl)))) (fun _ h9 => h9) rfl dX3_pairAt_15 ?_
  refine lv_iload_n hx hb dX3_pairAt_18 rfl (lv_at hl 0 rfl) ?_
  refine lv_iconst (v := 1) hx hb dX3_pairAt_19 (by decide) ?_
  refine lv_iadd hx hb dX3_pairAt_20 ?_
  refine va_iald (f := a 2) hx hb hK hP 1 0 rfl rfl (xin_67 _) dX3_pairAt_21 ?_
  refine lv_ior hx hb dX3_pairAt_22 ?_
  have hF : xPairAt f a p1 = (((a 2) (p1 &&& (6 : Int32)).toNatClampNeg) <<< ((8 : Int32) &&& 31)) ||| ((a 2) ((p1 &&& (6 : Int32)) + (1 : Int32)).toNatClampNeg) := rfl
  rw [hF]
  exact KC.reti hx hb hr hlocks hK hP hD hS dX3_pairAt_23 rfl
def xSetPairAt (f : Nat → Int32) (a : Nat → Nat → Int32) (p1 : Int32) (p2 : Int32) : (Nat → Nat → Int32) :=
  ua (ua a 2 (upd (a 2) (p1 &&& (6 : Int32)).toNatClampNeg ((p2 >>> ((8 : Int32) &&& 31)) &&& (255 : Int32)))) 2 (upd (upd (a 2) (p1 &&& (6 : Int32)).toNatClampNeg ((p2 >>> ((8 : Int32) &&& 31)) &&& (255 : Int32))) ((p1 &&& (6 : Int32)) + (1 : Int32)).toNatClampNeg (p2 &&& (255 : Int32)))
set_option maxHeartbeats 4000000 in
set_option maxRecDepth 100000 in
theorem kX3_setPairAt (l : Launch) (D : va_G) (cI : ClassId) (o : Nat → Nat) (f : Nat → Int32) (a : Nat → Nat → Int32) (p1 : Int32) (p2 : Int32) : KC l yX3_setPairAt wsX3_setPairAt 0 [.ref (o 0), .int p1, .int p2] D cI (wP cI o f a) (wP cI o f (xSetPairAt f a p1 p2)) none := by
  refine KC.of (cc := cX3_setPairAt) (maxL := 4) (by decide) rfl (Nat.le_of_ble_eq_true rfl) ?_
  intro p e s m below meth c A hx hb hr hts hown hlocks hml hK hP hD hS hA ls hl
  have hl : lv_has ls 4 [(0, .ref (o 0)), (1, .int p1), (2, .int p2)] := hl
  have hown : s.vm.findClass RX3 = some m.cls := hown
  have hi3 : ∀ w ∈ u_ws RX3 TX3 9, w ∈ wsX3_setPairAt := fun w h => List.mem_cons_of_mem _ (List.mem_append_right _ h)
  refine lv_iload_n hx hb dX3_setPairAt_0 rfl (lv_at hl 1 rfl) ?_
  refine lv_bipush (v := 6) hx hb dX3_setPairAt_1 (by decide) ?_
  refine lv_iand hx hb dX3_setPairAt_3 ?_
  refine lv_istore_n (lv' := [(3, .int _), (0, .ref _), (1, .int _), (2, .int _)]) hx hb dX3_setPairAt_4 rfl hl (by decide) rfl (fun ls hl => ?_)
  refine lv_aload_n hx hb dX3_setPairAt_5 rfl (lv_at hl 1 rfl) ?_
  refine va_get (ci := 3) (v := .ref (o 1)) (C := RX3) (T := TX3) (N := 9) hx hb hts hi3 hown hK hP 0 rfl rfl 2 (by decide) (hts (.fieldLink RX3 9 "InvaderBoard$Processor" "registers" "[I") (List.mem_cons_of_mem _ (List.mem_append_left _ (List.mem_of_getElem? (i := 0) rfl)))) (fun _ h9 => h9) rfl dX3_setPairAt_6 ?_
  refine lv_iload_n hx hb dX3_setPairAt_9 rfl (lv_at hl 0 rfl) ?_
  refine lv_iload_n hx hb dX3_setPairAt_10 rfl (lv_at hl 3 rfl) ?_
  refine lv_bipush (v := 8) hx hb dX3_setPairAt_11 (by decide) ?_
  refine lv_ishr hx hb dX3_setPairAt_13 ?_
  refine lv_sipush (v := 255) hx hb dX3_setPairAt_14 (by decide) ?_
  refine lv_iand hx hb dX3_setPairAt_17 ?_
  refine pu_P_a2 hx hb hK hP hD hS (xin_6 _) dX3_setPairAt_18 (fun H locs hP hD hS => ?_)
  refine lv_aload_n hx hb dX3_setPairAt_19 rfl (lv_at hl 1 rfl) ?_
  refine va_get (ci := 3) (v := .ref (o 1)) (C := RX3) (T := TX3) (N := 9) hx hb hts hi3 hown hK hP 0 rfl rfl 2 (by decide) (hts (.fieldLink RX3 9 "InvaderBoard$Processor" "registers" "[I") (List.mem_cons_of_mem _ (List.mem_append_left _ (List.mem_of_getElem? (i := 0) rfl)))) (fun _ h9 => h9) rfl dX3_setPairAt_20 ?_
  refine lv_iload_n hx hb dX3_setPairAt_23 rfl (lv_at hl 0 rfl) ?_
  refine lv_iconst (v := 1) hx hb dX3_setPairAt_24 (by decide) ?_
  refine lv_iadd hx hb dX3_setPairAt_25 ?_
  refine lv_iload_n hx hb dX3_setPairAt_26 rfl (lv_at hl 3 rfl) ?_
  refine lv_sipush (v := 255) hx hb dX3_setPairAt_27 (by decide) ?_
  refine lv_iand hx hb dX3_setPairAt_30 ?_
  refine pu_P_a2 hx hb hK hP hD hS (xin_67 _) dX3_setPairAt_31 (fun H locs hP hD hS => ?_)
  have hP : va_P D vwCl (wP cI o f (ua (ua a 2 (upd (a 2) (p1 &&& (6 : Int32)).toNatClampNeg ((p2 >>> ((8 : Int32) &&& 31)) &&& (255 : Int32)))) 2 (upd (upd (a 2) (p1 &&& (6 : Int32)).toNatClampNeg ((p2 >>> ((8 : Int32) &&& 31)) &&& (255 : Int32))) ((p1 &&& (6 : Int32)) + (1 : Int32)).toNatClampNeg (p2 &&& (255 : Int32))))) H := hP
  have hD : va_D A (wP cI o f (ua (ua a 2 (upd (a 2) (p1 &&& (6 : Int32)).toNatClampNeg ((p2 >>> ((8 : Int32) &&& 31)) &&& (255 : Int32)))) 2 (upd (upd (a 2) (p1 &&& (6 : Int32)).toNatClampNeg ((p2 >>> ((8 : Int32) &&& 31)) &&& (255 : Int32))) ((p1 &&& (6 : Int32)) + (1 : Int32)).toNatClampNeg (p2 &&& (255 : Int32))))) := hD
  have hF : xSetPairAt f a p1 p2 = ua (ua a 2 (upd (a 2) (p1 &&& (6 : Int32)).toNatClampNeg ((p2 >>> ((8 : Int32) &&& 31)) &&& (255 : Int32)))) 2 (upd (upd (a 2) (p1 &&& (6 : Int32)).toNatClampNeg ((p2 >>> ((8 : Int32) &&& 31)) &&& (255 : Int32))) ((p1 &&& (6 : Int32)) + (1 : Int32)).toNatClampNeg (p2 &&& (255 : Int32))) := rfl
  rw [hF]
  exact KC.retv hx hb hr hlocks hK hP hD hS dX3_setPairAt_32
def xPairOrSp (f : Nat → Int32) (a : Nat → Nat → Int32) (p1 : Int32) : Int32 :=
  if p1 = (3 : Int32) then f 0
  else xPairAt f a ((2 : Int32) * p1)
set_option maxHeartbeats 4000000 in
set_option maxRecDepth 100000 in
theorem kX3_pairOrSp (l : Launch) (D : va_G) (cI : ClassId) (o : Nat → Nat) (f : Nat → Int32) (a : Nat → Nat → Int32) (p1 : Int32) : KC l yX3_pairOrSp wsX3_pairOrSp 1 [.ref (o 0), .int p1] D cI (wP cI o f a) (wP cI o f a) (some (.int (xPairOrSp f a p1))) := by
  refine KC.of (cc := cX3_pairOrSp) (maxL := 2) (by decide) rfl (Nat.le_of_ble_eq_true rfl) ?_
  intro p e s m below meth c A hx hb hr hts hown hlocks hml hK hP hD hS hA ls hl
  have hl : lv_has ls 2 [(0, .ref (o 0)), (1, .int p1)] := hl
  have hown : s.vm.findClass RX3 = some m.cls := hown
  have hi3 : ∀ w ∈ u_ws RX3 TX3 9, w ∈ wsX3_pairOrSp := fun w h => List.mem_cons_of_mem _ (List.mem_append_right _ h)
  refine lv_iload_n hx hb dX3_pairOrSp_0 rfl (lv_at hl 1 rfl) ?_
  refine lv_iconst (v := 3) hx hb dX3_pairOrSp_1 (by decide) ?_
  refine lv_icmp_ne (tgt := 12) hx hb dX3_pairOrSp_2 (by decide) (fun c_1 => ?_) (fun c_1 => ?_)
  · refine lv_aload_n hx hb dX3_pairOrSp_12 rfl (lv_at hl 0 rfl) ?_
    refine lv_iconst (v := 2) hx hb dX3_pairOrSp_13 (by decide) ?_
    refine lv_iload_n hx hb dX3_pairOrSp_14 rfl (lv_at hl 1 rfl) ?_
    refine lv_imul hx hb dX3_pairOrSp_15 ?_
    refine KC.calli (ci := 3) (rest := []) (wt := wP cI o f a) (kX3_pairAt l D cI o f a ((2 : Int32) * p1)) (cwV 1 hts gX3_pairOrSp_X3_pairAt rfl rfl rfl (by decide +kernel) ⟨Nat.le_of_ble_eq_true rfl, Nat.le_of_ble_eq_true rfl⟩) ⟨hx, hb, hml, hown, hts⟩ hK hP hD hS hA rfl rfl rfl [0, 1, 2, 3, 4, 5, 6, 7, 8] [] [0, 1, 2, 3, 4, 5, 6, 7, 8] (by decide) rfl (wr := []) rfl (by decide) (by decide) (by decide) rfl rfl hl.1 rfl (Nat.le_of_ble_eq_true rfl) dX3_pairOrSp_16 ⟨Nat.zero_le _, Nat.zero_le _⟩ (fun H locs hP hD hS => ?_)
    have hF : xPairOrSp f a p1 = xPairAt f a ((2 : Int32) * p1) := by
      unfold xPairOrSp
      refine (if_neg c_1).trans ?_
      rfl
    rw [hF]
    exact KC.reti hx hb hr hlocks hK hP hD hS dX3_pairOrSp_19 rfl
  · refine lv_aload_n hx hb dX3_pairOrSp_5 rfl (lv_at hl 0 rfl) ?_
    refine va_get (ci := 3) (v := .int (f 0)) (C := RX3) (T := TX3) (N := 9) hx hb hts hi3 hown hK hP 0 rfl rfl 4 (by decide) (hts (.fieldLink RX3 25 "InvaderBoard$Processor" "sp" "I") (List.mem_cons_of_mem _ (List.mem_append_left _ (List.mem_of_getElem? (i := 0) rfl)))) (fun _ h9 => h9) rfl dX3_pairOrSp_6 ?_
    refine lv_goto (tgt := 19) hx hb dX3_pairOrSp_9 (by decide) ?_
    have hF : xPairOrSp f a p1 = f 0 := by
      unfold xPairOrSp
      refine (if_pos c_1).trans ?_
      rfl
    rw [hF]
    exact KC.reti hx hb hr hlocks hK hP hD hS dX3_pairOrSp_19 rfl
def xSetPairOrSp (f : Nat → Int32) (a : Nat → Nat → Int32) (p1 : Int32) (p2 : Int32) : (Nat → Int32) × (Nat → Nat → Int32) :=
  if p1 = (3 : Int32) then (upd f 0 (p2 &&& (65535 : Int32)), a)
  else (f, xSetPairAt f a ((2 : Int32) * p1) p2)
set_option maxHeartbeats 4000000 in
set_option maxRecDepth 100000 in
theorem kX3_setPairOrSp (l : Launch) (D : va_G) (cI : ClassId) (o : Nat → Nat) (f : Nat → Int32) (a : Nat → Nat → Int32) (p1 : Int32) (p2 : Int32) : KC l yX3_setPairOrSp wsX3_setPairOrSp 1 [.ref (o 0), .int p1, .int p2] D cI (wP cI o f a) (wP cI o ((xSetPairOrSp f a p1 p2).1) ((xSetPairOrSp f a p1 p2).2)) none := by
  refine KC.of (cc := cX3_setPairOrSp) (maxL := 3) (by decide) rfl (Nat.le_of_ble_eq_true rfl) ?_
  intro p e s m below meth c A hx hb hr hts hown hlocks hml hK hP hD hS hA ls hl
  have hl : lv_has ls 3 [(0, .ref (o 0)), (1, .int p1), (2, .int p2)] := hl
  have hown : s.vm.findClass RX3 = some m.cls := hown
  have hi3 : ∀ w ∈ u_ws RX3 TX3 9, w ∈ wsX3_setPairOrSp := fun w h => List.mem_cons_of_mem _ (List.mem_append_right _ h)
  refine lv_iload_n hx hb dX3_setPairOrSp_0 rfl (lv_at hl 1 rfl) ?_
  refine lv_iconst (v := 3) hx hb dX3_setPairOrSp_1 (by decide) ?_
  refine lv_icmp_ne (tgt := 16) hx hb dX3_setPairOrSp_2 (by decide) (fun c_1 => ?_) (fun c_1 => ?_)
  · refine lv_aload_n hx hb dX3_setPairOrSp_16 rfl (lv_at hl 0 rfl) ?_
    refine lv_iconst (v := 2) hx hb dX3_setPairOrSp_17 (by decide) ?_
    refine lv_iload_n hx hb dX3_setPairOrSp_18 rfl (lv_at hl 1 rfl) ?_
    refine lv_imul hx hb dX3_setPairOrSp_19 ?_
    refine lv_iload_n hx hb dX3_setPairOrSp_20 rfl (lv_at hl 2 rfl) ?_
    refine KC.callv (ci := 3) (rest := []) (wt := wP cI o f (xSetPairAt f a ((2 : Int32) * p1) p2)) (kX3_setPairAt l D cI o f a ((2 : Int32) * p1) p2) (cwV 2 hts gX3_setPairOrSp_X3_setPairAt rfl rfl rfl (by decide +kernel) ⟨Nat.le_of_ble_eq_true rfl, Nat.le_of_ble_eq_true rfl⟩) ⟨hx, hb, hml, hown, hts⟩ hK hP hD hS hA rfl rfl rfl [0, 1, 2, 3, 4, 5, 6, 7, 8] [] [0, 1, 2, 3, 4, 5, 6, 7, 8] (by decide) rfl (wr := []) rfl (by decide) (by decide) (by decide) rfl rfl hl.1 rfl (Nat.le_of_ble_eq_true rfl) dX3_setPairOrSp_21 ⟨Nat.zero_le _, Nat.zero_le _⟩ (fun H locs hP hD hS => ?_)
    have hF : xSetPairOrSp f a p1 p2 = (f, xSetPairAt f a ((2 : Int32) * p1) p2) := by
      unfold xSetPairOrSp
      refine (if_neg c_1).trans ?_
      rfl
    rw [hF]
    exact KC.retv hx hb hr hlocks hK hP hD hS dX3_setPairOrSp_24
  · refine lv_aload_n hx hb dX3_setPairOrSp_5 rfl (lv_at hl 0 rfl) ?_
    refine lv_iload_n hx hb dX3_setPairOrSp_6 rfl (lv_at hl 2 rfl) ?_
    refine lv_ldc (v := 65535) hx hb hown (hts (.constant RX3 184 65535) (List.mem_cons_of_mem _ (List.mem_append_left _ (List.mem_of_getElem? (i := 0) rfl)))) dX3_setPairOrSp_7 ?_
    refine lv_iand hx hb dX3_setPairOrSp_9 ?_
    refine pu_P_f0 (v := p2 &&& (65535 : Int32)) hx hb hts hi3 hown hK hP hD hS (hts (.fieldLink RX3 25 "InvaderBoard$Processor" "sp" "I") (List.mem_cons_of_mem _ (List.mem_append_left _ (List.mem_of_getElem? (i := 1) rfl)))) dX3_setPairOrSp_10 (fun H locs hP hD hS => ?_)
    refine lv_goto (tgt := 24) hx hb dX3_setPairOrSp_13 (by decide) ?_
    have hF : xSetPairOrSp f a p1 p2 = (upd f 0 (p2 &&& (65535 : Int32)), a) := by
      unfold xSetPairOrSp
      refine (if_pos c_1).trans ?_
      rfl
    rw [hF]
    exact KC.retv hx hb hr hlocks hK hP hD hS dX3_setPairOrSp_24
def xFetch (f : Nat → Int32) (a : Nat → Nat → Int32)  : Int32 × (Nat → Int32) :=
  (xRead a (f 1), upd f 1 (((f 1) + (1 : Int32)) &&& (65535 : Int32)))
set_option maxHeartbeats 4000000 in
set_option maxRecDepth 100000 in
theorem kX3_fetch (l : Launch) (D : va_G) (cI : ClassId) (o : Nat → Nat) (f : Nat → Int32) (a : Nat → Nat → Int32)  : KC l yX3_fetch wsX3_fetch 1 [.ref (o 0)] D cI (wP cI o f a) (wP cI o ((xFetch f a).2) a) (some (.int (xFetch f a).1)) := by
  refine KC.of (cc := cX3_fetch) (maxL := 2) (by decide) rfl (Nat.le_of_ble_eq_true rfl) ?_
  intro p e s m below meth c A hx hb hr hts hown hlocks hml hK hP hD hS hA ls hl
  have hl : lv_has ls 2 [(0, .ref (o 0))] := hl
  have hown : s.vm.findClass RX3 = some m.cls := hown
  have hi3 : ∀ w ∈ u_ws RX3 TX3 9, w ∈ wsX3_fetch := fun w h => List.mem_cons_of_mem _ (List.mem_append_left _ (List.mem_append_right _ h))
  refine lv_aload_n hx hb dX3_fetch_0 rfl (lv_at hl 0 rfl) ?_
  refine va_get (ci := 3) (v := .ref (o 2)) (C := RX3) (T := TX3) (N := 9) hx hb hts hi3 hown hK hP 0 rfl rfl 0 (by decide) (hts (.fieldLink RX3 17 "InvaderBoard$Processor" "store" "LInvaderBoard$Memory;") (List.mem_cons_of_mem _ (List.mem_append_left _ (List.mem_append_left _ (List.mem_of_getElem? (i := 0) rfl))))) (fun _ h9 => h9) rfl dX3_fetch_1 ?_
  refine lv_aload_n hx hb dX3_fetch_4 rfl (lv_at hl 0 rfl) ?_
  refine va_get (ci := 3) (v := .int (f 1)) (C := RX3) (T := TX3) (N := 9) hx hb hts hi3 hown hK hP 0 rfl rfl 5 (by decide) (hts (.fieldLink RX3 28 "InvaderBoard$Processor" "pc" "I") (List.mem_cons_of_mem _ (List.mem_append_left _ (List.mem_append_left _ (List.mem_of_getElem? (i := 1) rfl))))) (fun _ h9 => h9) rfl dX3_fetch_5 ?_
  refine KC.calli (ci := 1) (rest := []) (wt := wP cI o f a) (kX1_read l D cI o a (f 1)) (cwV 1 hts gX3_fetch_X1_read rfl rfl rfl (by decide +kernel) ⟨Nat.le_of_ble_eq_true rfl, Nat.le_of_ble_eq_true rfl⟩) ⟨hx, hb, hml, hown, hts⟩ hK hP hD hS hA rfl rfl rfl [2, 3, 4] [0, 1, 5, 6, 7, 8] [0, 1, 6, 7, 8, 2, 3, 4, 5] (by decide) rfl (wr := [_, _, _, _, _, _]) rfl (by decide) (by decide) (by decide) rfl rfl hl.1 rfl (Nat.le_of_ble_eq_true rfl) dX3_fetch_8 ⟨Nat.zero_le _, Nat.zero_le _⟩ (fun H locs hP hD hS => ?_)
  refine lv_istore_n (lv' := [(1, .int _), (0, .ref _)]) hx hb dX3_fetch_11 rfl hl (by decide) rfl (fun ls hl => ?_)
  refine lv_aload_n hx hb dX3_fetch_12 rfl (lv_at hl 1 rfl) ?_
  refine lv_aload_n hx hb dX3_fetch_13 rfl (lv_at hl 1 rfl) ?_
  refine va_get (ci := 3) (v := .int (f 1)) (C := RX3) (T := TX3) (N := 9) hx hb hts hi3 hown hK hP 0 rfl rfl 5 (by decide) (hts (.fieldLink RX3 28 "InvaderBoard$Processor" "pc" "I") (List.mem_cons_of_mem _ (List.mem_append_left _ (List.mem_append_left _ (List.mem_of_getElem? (i := 1) rfl))))) (fun _ h9 => h9) rfl dX3_fetch_14 ?_
  refine lv_iconst (v := 1) hx hb dX3_fetch_17 (by decide) ?_
  refine lv_iadd hx hb dX3_fetch_18 ?_
  refine lv_ldc (v := 65535) hx hb hown (hts (.constant RX3 184 65535) (List.mem_cons_of_mem _ (List.mem_append_left _ (List.mem_append_left _ (List.mem_of_getElem? (i := 2) rfl))))) dX3_fetch_19 ?_
  refine lv_iand hx hb dX3_fetch_21 ?_
  refine pu_P_f1 (v := ((f 1) + (1 : Int32)) &&& (65535 : Int32)) hx hb hts hi3 hown hK hP hD hS (hts (.fieldLink RX3 28 "InvaderBoard$Processor" "pc" "I") (List.mem_cons_of_mem _ (List.mem_append_left _ (List.mem_append_left _ (List.mem_of_getElem? (i := 1) rfl))))) dX3_fetch_22 (fun H locs hP hD hS => ?_)
  refine lv_iload_n hx hb dX3_fetch_25 rfl (lv_at hl 0 rfl) ?_
  have hF : xFetch f a = (xRead a (f 1), upd f 1 (((f 1) + (1 : Int32)) &&& (65535 : Int32))) := rfl
  rw [hF]
  exact KC.reti hx hb hr hlocks hK hP hD hS dX3_fetch_26 rfl
def xFetchWord (f : Nat → Int32) (a : Nat → Nat → Int32)  : Int32 × (Nat → Int32) :=
  (xReadWord a (f 1), upd f 1 (((f 1) + (2 : Int32)) &&& (65535 : Int32)))
set_option maxHeartbeats 4000000 in
set_option maxRecDepth 100000 in
theorem kX3_fetchWord (l : Launch) (D : va_G) (cI : ClassId) (o : Nat → Nat) (f : Nat → Int32) (a : Nat → Nat → Int32)  : KC l yX3_fetchWord wsX3_fetchWord 2 [.ref (o 0)] D cI (wP cI o f a) (wP cI o ((xFetchWord f a).2) a) (some (.int (xFetchWord f a).1)) := by
  refine KC.of (cc := cX3_fetchWord) (maxL := 2) (by decide) rfl (Nat.le_of_ble_eq_true rfl) ?_
  intro p e s m below meth c A hx hb hr hts hown hlocks hml hK hP hD hS hA ls hl
  have hl : lv_has ls 2 [(0, .ref (o 0))] := hl
  have hown : s.vm.findClass RX3 = some m.cls := hown
  have hi3 : ∀ w ∈ u_ws RX3 TX3 9, w ∈ wsX3_fetchWord := fun w h => List.mem_cons_of_mem _ (List.mem_append_left _ (List.mem_append_right _ h))
  refine lv_aload_n hx hb dX3_fetchWord_0 rfl (lv_at hl 0 rfl) ?_
  refine va_get (ci := 3) (v := .ref (o 2)) (C := RX3) (T := TX3) (N := 9) hx hb hts hi3 hown hK hP 0 rfl rfl 0 (by decide) (hts (.fieldLink RX3 17 "InvaderBoard$Processor" "store" "LInvaderBoard$Memory;") (List.mem_cons_of_mem _ (List.mem_append_left _ (List.mem_append_left _ (List.mem_of_getElem? (i := 0) rfl))))) (fun _ h9 => h9) rfl dX3_fetchWord_1 ?_
  refine lv_aload_n hx hb dX3_fetchWord_4 rfl (lv_at hl 0 rfl) ?_
  refine va_get (ci := 3) (v := .int (f 1)) (C := RX3) (T := TX3) (N := 9) hx hb hts hi3 hown hK hP 0 rfl rfl 5 (by decide) (hts (.fieldLink RX3 28 "InvaderBoard$Processor" "pc" "I") (List.mem_cons_of_mem _ (List.mem_append_left _ (List.mem_append_left _ (List.mem_of_getElem? (i := 1) rfl))))) (fun _ h9 => h9) rfl dX3_fetchWord_5 ?_
  refine KC.calli (ci := 1) (rest := []) (wt := wP cI o f a) (kX1_readWord l D cI o a (f 1)) (cwV 1 hts gX3_fetchWord_X1_readWord rfl rfl rfl (by decide +kernel) ⟨Nat.le_of_ble_eq_true rfl, Nat.le_of_ble_eq_true rfl⟩) ⟨hx, hb, hml, hown, hts⟩ hK hP hD hS hA rfl rfl rfl [2, 3, 4] [0, 1, 5, 6, 7, 8] [0, 1, 6, 7, 8, 2, 3, 4, 5] (by decide) rfl (wr := [_, _, _, _, _, _]) rfl (by decide) (by decide) (by decide) rfl rfl hl.1 rfl (Nat.le_of_ble_eq_true rfl) dX3_fetchWord_8 ⟨Nat.zero_le _, Nat.zero_le _⟩ (fun H locs hP hD hS => ?_)
  refine lv_istore_n (lv' := [(1, .int _), (0, .ref _)]) hx hb dX3_fetchWord_11 rfl hl (by decide) rfl (fun ls hl => ?_)
  refine lv_aload_n hx hb dX3_fetchWord_12 rfl (lv_at hl 1 rfl) ?_
  refine lv_aload_n hx hb dX3_fetchWord_13 rfl (lv_at hl 1 rfl) ?_
  refine va_get (ci := 3) (v := .int (f 1)) (C := RX3) (T := TX3) (N := 9) hx hb hts hi3 hown hK hP 0 rfl rfl 5 (by decide) (hts (.fieldLink RX3 28 "InvaderBoard$Processor" "pc" "I") (List.mem_cons_of_mem _ (List.mem_append_left _ (List.mem_append_left _ (List.mem_of_getElem? (i := 1) rfl))))) (fun _ h9 => h9) rfl dX3_fetchWord_14 ?_
  refine lv_iconst (v := 2) hx hb dX3_fetchWord_17 (by decide) ?_
  refine lv_iadd hx hb dX3_fetchWord_18 ?_
  refine lv_ldc (v := 65535) hx hb hown (hts (.constant RX3 184 65535) (List.mem_cons_of_mem _ (List.mem_append_left _ (List.mem_append_left _ (List.mem_of_getElem? (i := 2) rfl))))) dX3_fetchWord_19 ?_
  refine lv_iand hx hb dX3_fetchWord_21 ?_
  refine pu_P_f1 (v := ((f 1) + (2 : Int32)) &&& (65535 : Int32)) hx hb hts hi3 hown hK hP hD hS (hts (.fieldLink RX3 28 "InvaderBoard$Processor" "pc" "I") (List.mem_cons_of_mem _ (List.mem_append_left _ (List.mem_append_left _ (List.mem_of_getElem? (i := 1) rfl))))) dX3_fetchWord_22 (fun H locs hP hD hS => ?_)
  refine lv_iload_n hx hb dX3_fetchWord_25 rfl (lv_at hl 0 rfl) ?_
  have hF : xFetchWord f a = (xReadWord a (f 1), upd f 1 (((f 1) + (2 : Int32)) &&& (65535 : Int32))) := rfl
  rw [hF]
  exact KC.reti hx hb hr hlocks hK hP hD hS dX3_fetchWord_26 rfl
def xPush (f : Nat → Int32) (a : Nat → Nat → Int32) (p1 : Int32) : (Nat → Int32) × (Nat → Nat → Int32) :=
  (upd f 0 (((f 0) - (2 : Int32)) &&& (65535 : Int32)), ua a 1 (xWriteWord a (((f 0) - (2 : Int32)) &&& (65535 : Int32)) p1))
set_option maxHeartbeats 4000000 in
set_option maxRecDepth 100000 in
theorem kX3_push (l : Launch) (D : va_G) (cI : ClassId) (o : Nat → Nat) (f : Nat → Int32) (a : Nat → Nat → Int32) (p1 : Int32) : KC l yX3_push wsX3_push 2 [.ref (o 0), .int p1] D cI (wP cI o f a) (wP cI o ((xPush f a p1).1) ((xPush f a p1).2)) none := by
  refine KC.of (cc := cX3_push) (maxL := 2) (by decide) rfl (Nat.le_of_ble_eq_true rfl) ?_
  intro p e s m below meth c A hx hb hr hts hown hlocks hml hK hP hD hS hA ls hl
  have hl : lv_has ls 2 [(0, .ref (o 0)), (1, .int p1)] := hl
  have hown : s.vm.findClass RX3 = some m.cls := hown
  have hi3 : ∀ w ∈ u_ws RX3 TX3 9, w ∈ wsX3_push := fun w h => List.mem_cons_of_mem _ (List.mem_append_left _ (List.mem_append_right _ h))
  refine lv_aload_n hx hb dX3_push_0 rfl (lv_at hl 0 rfl) ?_
  refine lv_aload_n hx hb dX3_push_1 rfl (lv_at hl 0 rfl) ?_
  refine va_get (ci := 3) (v := .int (f 0)) (C := RX3) (T := TX3) (N := 9) hx hb hts hi3 hown hK hP 0 rfl rfl 4 (by decide) (hts (.fieldLink RX3 25 "InvaderBoard$Processor" "sp" "I") (List.mem_cons_of_mem _ (List.mem_append_left _ (List.mem_append_left _ (List.mem_of_getElem? (i := 0) rfl))))) (fun _ h9 => h9) rfl dX3_push_2 ?_
  refine lv_iconst (v := 2) hx hb dX3_push_5 (by decide) ?_
  refine lv_isub hx hb dX3_push_6 ?_
  refine lv_ldc (v := 65535) hx hb hown (hts (.constant RX3 184 65535) (List.mem_cons_of_mem _ (List.mem_append_left _ (List.mem_append_left _ (List.mem_of_getElem? (i := 1) rfl))))) dX3_push_7 ?_
  refine lv_iand hx hb dX3_push_9 ?_
  refine pu_P_f0 (v := ((f 0) - (2 : Int32)) &&& (65535 : Int32)) hx hb hts hi3 hown hK hP hD hS (hts (.fieldLink RX3 25 "InvaderBoard$Processor" "sp" "I") (List.mem_cons_of_mem _ (List.mem_append_left _ (List.mem_append_left _ (List.mem_of_getElem? (i := 0) rfl))))) dX3_push_10 (fun H locs hP hD hS => ?_)
  refine lv_aload_n hx hb dX3_push_13 rfl (lv_at hl 0 rfl) ?_
  refine va_get (ci := 3) (v := .ref (o 2)) (C := RX3) (T := TX3) (N := 9) hx hb hts hi3 hown hK hP 0 rfl rfl 0 (by decide) (hts (.fieldLink RX3 17 "InvaderBoard$Processor" "store" "LInvaderBoard$Memory;") (List.mem_cons_of_mem _ (List.mem_append_left _ (List.mem_append_left _ (List.mem_of_getElem? (i := 2) rfl))))) (fun _ h9 => h9) rfl dX3_push_14 ?_
  refine lv_aload_n hx hb dX3_push_17 rfl (lv_at hl 0 rfl) ?_
  refine va_get (ci := 3) (v := .int (((f 0) - (2 : Int32)) &&& (65535 : Int32))) (C := RX3) (T := TX3) (N := 9) hx hb hts hi3 hown hK hP 0 rfl rfl 4 (by decide) (hts (.fieldLink RX3 25 "InvaderBoard$Processor" "sp" "I") (List.mem_cons_of_mem _ (List.mem_append_left _ (List.mem_append_left _ (List.mem_of_getElem? (i := 0) rfl))))) (fun _ h9 => h9) rfl dX3_push_18 ?_
  refine lv_iload_n hx hb dX3_push_21 rfl (lv_at hl 1 rfl) ?_
  refine KC.callv (ci := 1) (rest := []) (wt := wP cI o (upd f 0 (((f 0) - (2 : Int32)) &&& (65535 : Int32))) (ua a 1 (xWriteWord a (((f 0) - (2 : Int32)) &&& (65535 : Int32)) p1))) (kX1_writeWord l D cI o a (((f 0) - (2 : Int32)) &&& (65535 : Int32)) p1) (cwV 2 hts gX3_push_X1_writeWord rfl rfl rfl (by decide +kernel) ⟨Nat.le_of_ble_eq_true rfl, Nat.le_of_ble_eq_true rfl⟩) ⟨hx, hb, hml, hown, hts⟩ hK hP hD hS hA rfl rfl rfl [2, 3, 4] [0, 1, 5, 6, 7, 8] [0, 1, 6, 7, 8, 2, 3, 4, 5] (by decide) rfl (wr := [_, _, _, _, _, _]) rfl (by decide) (by decide) (by decide) rfl rfl hl.1 rfl (Nat.le_of_ble_eq_true rfl) dX3_push_22 ⟨Nat.zero_le _, Nat.zero_le _⟩ (fun H locs hP hD hS => ?_)
  have hF : xPush f a p1 = (upd f 0 (((f 0) - (2 : Int32)) &&& (65535 : Int32)), ua a 1 (xWriteWord a (((f 0) - (2 : Int32)) &&& (65535 : Int32)) p1)) := rfl
  rw [hF]
  exact KC.retv hx hb hr hlocks hK hP hD hS dX3_push_25
def xPop (f : Nat → Int32) (a : Nat → Nat → Int32)  : Int32 × (Nat → Int32) :=
  (xReadWord a (f 0), upd f 0 (((f 0) + (2 : Int32)) &&& (65535 : Int32)))
set_option maxHeartbeats 4000000 in
set_option maxRecDepth 100000 in
theorem kX3_pop (l : Launch) (D : va_G) (cI : ClassId) (o : Nat → Nat) (f : Nat → Int32) (a : Nat → Nat → Int32)  : KC l yX3_pop wsX3_pop 2 [.ref (o 0)] D cI (wP cI o f a) (wP cI o ((xPop f a).2) a) (some (.int (xPop f a).1)) := by
  refine KC.of (cc := cX3_pop) (maxL := 2) (by decide) rfl (Nat.le_of_ble_eq_true rfl) ?_
  intro p e s m below meth c A hx hb hr hts hown hlocks hml hK hP hD hS hA ls hl
  have hl : lv_has ls 2 [(0, .ref (o 0))] := hl
  have hown : s.vm.findClass RX3 = some m.cls := hown
  have hi3 : ∀ w ∈ u_ws RX3 TX3 9, w ∈ wsX3_pop := fun w h => List.mem_cons_of_mem _ (List.mem_append_left _ (List.mem_append_right _ h))
  refine lv_aload_n hx hb dX3_pop_0 rfl (lv_at hl 0 rfl) ?_
  refine va_get (ci := 3) (v := .ref (o 2)) (C := RX3) (T := TX3) (N := 9) hx hb hts hi3 hown hK hP 0 rfl rfl 0 (by decide) (hts (.fieldLink RX3 17 "InvaderBoard$Processor" "store" "LInvaderBoard$Memory;") (List.mem_cons_of_mem _ (List.mem_append_left _ (List.mem_append_left _ (List.mem_of_getElem? (i := 0) rfl))))) (fun _ h9 => h9) rfl dX3_pop_1 ?_
  refine lv_aload_n hx hb dX3_pop_4 rfl (lv_at hl 0 rfl) ?_
  refine va_get (ci := 3) (v := .int (f 0)) (C := RX3) (T := TX3) (N := 9) hx hb hts hi3 hown hK hP 0 rfl rfl 4 (by decide) (hts (.fieldLink RX3 25 "InvaderBoard$Processor" "sp" "I") (List.mem_cons_of_mem _ (List.mem_append_left _ (List.mem_append_left _ (List.mem_of_getElem? (i := 1) rfl))))) (fun _ h9 => h9) rfl dX3_pop_5 ?_
  refine KC.calli (ci := 1) (rest := []) (wt := wP cI o f a) (kX1_readWord l D cI o a (f 0)) (cwV 1 hts gX3_pop_X1_readWord rfl rfl rfl (by decide +kernel) ⟨Nat.le_of_ble_eq_true rfl, Nat.le_of_ble_eq_true rfl⟩) ⟨hx, hb, hml, hown, hts⟩ hK hP hD hS hA rfl rfl rfl [2, 3, 4] [0, 1, 5, 6, 7, 8] [0, 1, 6, 7, 8, 2, 3, 4, 5] (by decide) rfl (wr := [_, _, _, _, _, _]) rfl (by decide) (by decide) (by decide) rfl rfl hl.1 rfl (Nat.le_of_ble_eq_true rfl) dX3_pop_8 ⟨Nat.zero_le _, Nat.zero_le _⟩ (fun H locs hP hD hS => ?_)
  refine lv_istore_n (lv' := [(1, .int _), (0, .ref _)]) hx hb dX3_pop_11 rfl hl (by decide) rfl (fun ls hl => ?_)
  refine lv_aload_n hx hb dX3_pop_12 rfl (lv_at hl 1 rfl) ?_
  refine lv_aload_n hx hb dX3_pop_13 rfl (lv_at hl 1 rfl) ?_
  refine va_get (ci := 3) (v := .int (f 0)) (C := RX3) (T := TX3) (N := 9) hx hb hts hi3 hown hK hP 0 rfl rfl 4 (by decide) (hts (.fieldLink RX3 25 "InvaderBoard$Processor" "sp" "I") (List.mem_cons_of_mem _ (List.mem_append_left _ (List.mem_append_left _ (List.mem_of_getElem? (i := 1) rfl))))) (fun _ h9 => h9) rfl dX3_pop_14 ?_
  refine lv_iconst (v := 2) hx hb dX3_pop_17 (by decide) ?_
  refine lv_iadd hx hb dX3_pop_18 ?_
  refine lv_ldc (v := 65535) hx hb hown (hts (.constant RX3 184 65535) (List.mem_cons_of_mem _ (List.mem_append_left _ (List.mem_append_left _ (List.mem_of_getElem? (i := 2) rfl))))) dX3_pop_19 ?_
  refine lv_iand hx hb dX3_pop_21 ?_
  refine pu_P_f0 (v := ((f 0) + (2 : Int32)) &&& (65535 : Int32)) hx hb hts hi3 hown hK hP hD hS (hts (.fieldLink RX3 25 "InvaderBoard$Processor" "sp" "I") (List.mem_cons_of_mem _ (List.mem_append_left _ (List.mem_append_left _ (List.mem_of_getElem? (i := 1) rfl))))) dX3_pop_22 (fun H locs hP hD hS => ?_)
  refine lv_iload_n hx hb dX3_pop_25 rfl (lv_at hl 0 rfl) ?_
  have hF : xPop f a = (xReadWord a (f 0), upd f 0 (((f 0) + (2 : Int32)) &&& (65535 : Int32))) := rfl
  rw [hF]
  exact KC.reti hx hb hr hlocks hK hP hD hS dX3_pop_26 rfl
def xOperand (f : Nat → Int32) (a : Nat → Nat → Int32) (p1 : Int32) : Int32 :=
  if p1 &&& (7 : Int32) = (6 : Int32) then xRead a (xPairAt f a (4 : Int32))
  else (a 2) (p1 &&& (7 : Int32)).toNatClampNeg
set_option maxHeartbeats 4000000 in
set_option maxRecDepth 100000 in
theorem kX3_operand (l : Launch) (D : va_G) (cI : ClassId) (o : Nat → Nat) (f : Nat → Int32) (a : Nat → Nat → Int32) (p1 : Int32) : KC l yX3_operand wsX3_operand 1 [.ref (o 0), .int p1] D cI (wP cI o f a) (wP cI o f a) (some (.int (xOperand f a p1))) := by
  refine KC.of (cc := cX3_operand) (maxL := 3) (by decide) rfl (Nat.le_of_ble_eq_true rfl) ?_
  intro p e s m below meth c A hx hb hr hts hown hlocks hml hK hP hD hS hA ls hl
  have hl : lv_has ls 3 [(0, .ref (o 0)), (1, .int p1)] := hl
  have hown : s.vm.findClass RX3 = some m.cls := hown
  have hi3 : ∀ w ∈ u_ws RX3 TX3 9, w ∈ wsX3_operand := fun w h => List.mem_cons_of_mem _ (List.mem_append_left _ (List.mem_append_right _ h))
  refine lv_iload_n hx hb dX3_operand_0 rfl (lv_at hl 1 rfl) ?_
  refine lv_bipush (v := 7) hx hb dX3_operand_1 (by decide) ?_
  refine lv_iand hx hb dX3_operand_3 ?_
  refine lv_istore_n (lv' := [(2, .int _), (0, .ref _), (1, .int _)]) hx hb dX3_operand_4 rfl hl (by decide) rfl (fun ls hl => ?_)
  refine lv_iload_n hx hb dX3_operand_5 rfl (lv_at hl 0 rfl) ?_
  refine lv_bipush (v := 6) hx hb dX3_operand_6 (by decide) ?_
  refine lv_icmp_ne (tgt := 26) hx hb dX3_operand_8 (by decide) (fun c_1 => ?_) (fun c_1 => ?_)
  · refine lv_aload_n hx hb dX3_operand_26 rfl (lv_at hl 1 rfl) ?_
    refine va_get (ci := 3) (v := .ref (o 1)) (C := RX3) (T := TX3) (N := 9) hx hb hts hi3 hown hK hP 0 rfl rfl 2 (by decide) (hts (.fieldLink RX3 9 "InvaderBoard$Processor" "registers" "[I") (List.mem_cons_of_mem _ (List.mem_append_left _ (List.mem_append_left _ (List.mem_of_getElem? (i := 1) rfl))))) (fun _ h9 => h9) rfl dX3_operand_27 ?_
    refine lv_iload_n hx hb dX3_operand_30 rfl (lv_at hl 0 rfl) ?_
    refine va_iald (f := a 2) hx hb hK hP 1 0 rfl rfl (pk_andIn _ 3 (by decide) (by decide)) dX3_operand_31 ?_
    have hF : xOperand f a p1 = (a 2) (p1 &&& (7 : Int32)).toNatClampNeg := by
      unfold xOperand
      refine (if_neg c_1).trans ?_
      rfl
    rw [hF]
    exact KC.reti hx hb hr hlocks hK hP hD hS dX3_operand_32 rfl
  · refine lv_aload_n hx hb dX3_operand_11 rfl (lv_at hl 1 rfl) ?_
    refine va_get (ci := 3) (v := .ref (o 2)) (C := RX3) (T := TX3) (N := 9) hx hb hts hi3 hown hK hP 0 rfl rfl 0 (by decide) (hts (.fieldLink RX3 17 "InvaderBoard$Processor" "store" "LInvaderBoard$Memory;") (List.mem_cons_of_mem _ (List.mem_append_left _ (List.mem_append_left _ (List.mem_of_getElem? (i := 0) rfl))))) (fun _ h9 => h9) rfl dX3_operand_12 ?_
    refine lv_aload_n hx hb dX3_operand_15 rfl (lv_at hl 1 rfl) ?_
    refine lv_iconst (v := 4) hx hb dX3_operand_16 (by decide) ?_
    refine KC.calli (ci := 3) (rest := [.ref (o 2)]) (wt := wP cI o f a) (kX3_pairAt l D cI o f a (4 : Int32)) (cwV 1 hts gX3_operand_X3_pairAt rfl rfl rfl (by decide +kernel) ⟨Nat.le_of_ble_eq_true rfl, Nat.le_of_ble_eq_true rfl⟩) ⟨hx, hb, hml, hown, hts⟩ hK hP hD hS hA rfl rfl rfl [0, 1, 2, 3, 4, 5, 6, 7, 8] [] [0, 1, 2, 3, 4, 5, 6, 7, 8] (by decide) rfl (wr := []) rfl (by decide) (by decide) (by decide) rfl rfl hl.1 rfl (Nat.le_of_ble_eq_true rfl) dX3_operand_17 ⟨Nat.zero_le _, Nat.zero_le _⟩ (fun H locs hP hD hS => ?_)
    refine KC.calli (ci := 1) (rest := []) (wt := wP cI o f a) (kX1_read l D cI o a (xPairAt f a (4 : Int32))) (cwV 1 hts gX3_operand_X1_read rfl rfl rfl (by decide +kernel) ⟨Nat.le_of_ble_eq_true rfl, Nat.le_of_ble_eq_true rfl⟩) ⟨hx, hb, hml, hown, hts⟩ hK hP hD hS hA rfl rfl rfl [2, 3, 4] [0, 1, 5, 6, 7, 8] [0, 1, 6, 7, 8, 2, 3, 4, 5] (by decide) rfl (wr := [_, _, _, _, _, _]) rfl (by decide) (by decide) (by decide) rfl rfl hl.1 rfl (Nat.le_of_ble_eq_true rfl) dX3_operand_20 ⟨Nat.zero_le _, Nat.zero_le _⟩ (fun H locs hP hD hS => ?_)
    refine lv_goto (tgt := 32) hx hb dX3_operand_23 (by decide) ?_
    have hF : xOperand f a p1 = xRead a (xPairAt f a (4 : Int32)) := by
      unfold xOperand
      refine (if_pos c_1).trans ?_
      rfl
    rw [hF]
    exact KC.reti hx hb hr hlocks hK hP hD hS dX3_operand_32 rfl
def xSetOperand (f : Nat → Int32) (a : Nat → Nat → Int32) (p1 : Int32) (p2 : Int32) : (Nat → Nat → Int32) :=
  if p1 &&& (7 : Int32) = (6 : Int32) then ua a 1 (xWrite a (xPairAt f a (4 : Int32)) p2)
  else ua a 2 (upd (a 2) (p1 &&& (7 : Int32)).toNatClampNeg p2)
set_option maxHeartbeats 4000000 in
set_option maxRecDepth 100000 in
theorem kX3_setOperand (l : Launch) (D : va_G) (cI : ClassId) (o : Nat → Nat) (f : Nat → Int32) (a : Nat → Nat → Int32) (p1 : Int32) (p2 : Int32) : KC l yX3_setOperand wsX3_setOperand 1 [.ref (o 0), .int p1, .int p2] D cI (wP cI o f a) (wP cI o f (xSetOperand f a p1 p2)) none := by
  refine KC.of (cc := cX3_setOperand) (maxL := 4) (by decide) rfl (Nat.le_of_ble_eq_true rfl) ?_
  intro p e s m below meth c A hx hb hr hts hown hlocks hml hK hP hD hS hA ls hl
  have hl : lv_has ls 4 [(0, .ref (o 0)), (1, .int p1), (2, .int p2)] := hl
  have hown : s.vm.findClass RX3 = some m.cls := hown
  have hi3 : ∀ w ∈ u_ws RX3 TX3 9, w ∈ wsX3_setOperand := fun w h => List.mem_cons_of_mem _ (List.mem_append_left _ (List.mem_append_right _ h))
  refine lv_iload_n hx hb dX3_setOperand_0 rfl (lv_at hl 1 rfl) ?_
  refine lv_bipush (v := 7) hx hb dX3_setOperand_1 (by decide) ?_
  refine lv_iand hx hb dX3_setOperand_3 ?_
  refine lv_istore_n (lv' := [(3, .int _), (0, .ref _), (1, .int _), (2, .int _)]) hx hb dX3_setOperand_4 rfl hl (by decide) rfl (fun ls hl => ?_)
  refine lv_iload_n hx hb dX3_setOperand_5 rfl (lv_at hl 0 rfl) ?_
  refine lv_bipush (v := 6) hx hb dX3_setOperand_6 (by decide) ?_
  refine lv_icmp_ne (tgt := 27) hx hb dX3_setOperand_8 (by decide) (fun c_1 => ?_) (fun c_1 => ?_)
  · refine lv_aload_n hx hb dX3_setOperand_27 rfl (lv_at hl 1 rfl) ?_
    refine va_get (ci := 3) (v := .ref (o 1)) (C := RX3) (T := TX3) (N := 9) hx hb hts hi3 hown hK hP 0 rfl rfl 2 (by decide) (hts (.fieldLink RX3 9 "InvaderBoard$Processor" "registers" "[I") (List.mem_cons_of_mem _ (List.mem_append_left _ (List.mem_append_left _ (List.mem_of_getElem? (i := 1) rfl))))) (fun _ h9 => h9) rfl dX3_setOperand_28 ?_
    refine lv_iload_n hx hb dX3_setOperand_31 rfl (lv_at hl 0 rfl) ?_
    refine lv_iload_n hx hb dX3_setOperand_32 rfl (lv_at hl 3 rfl) ?_
    refine pu_P_a2 hx hb hK hP hD hS (pk_andIn _ 3 (by decide) (by decide)) dX3_setOperand_33 (fun H locs hP hD hS => ?_)
    have hF : xSetOperand f a p1 p2 = ua a 2 (upd (a 2) (p1 &&& (7 : Int32)).toNatClampNeg p2) := by
      unfold xSetOperand
      refine (if_neg c_1).trans ?_
      rfl
    rw [hF]
    exact KC.retv hx hb hr hlocks hK hP hD hS dX3_setOperand_34
  · refine lv_aload_n hx hb dX3_setOperand_11 rfl (lv_at hl 1 rfl) ?_
    refine va_get (ci := 3) (v := .ref (o 2)) (C := RX3) (T := TX3) (N := 9) hx hb hts hi3 hown hK hP 0 rfl rfl 0 (by decide) (hts (.fieldLink RX3 17 "InvaderBoard$Processor" "store" "LInvaderBoard$Memory;") (List.mem_cons_of_mem _ (List.mem_append_left _ (List.mem_append_left _ (List.mem_of_getElem? (i := 0) rfl))))) (fun _ h9 => h9) rfl dX3_setOperand_12 ?_
    refine lv_aload_n hx hb dX3_setOperand_15 rfl (lv_at hl 1 rfl) ?_
    refine lv_iconst (v := 4) hx hb dX3_setOperand_16 (by decide) ?_
    refine KC.calli (ci := 3) (rest := [.ref (o 2)]) (wt := wP cI o f a) (kX3_pairAt l D cI o f a (4 : Int32)) (cwV 1 hts gX3_setOperand_X3_pairAt rfl rfl rfl (by decide +kernel) ⟨Nat.le_of_ble_eq_true rfl, Nat.le_of_ble_eq_true rfl⟩) ⟨hx, hb, hml, hown, hts⟩ hK hP hD hS hA rfl rfl rfl [0, 1, 2, 3, 4, 5, 6, 7, 8] [] [0, 1, 2, 3, 4, 5, 6, 7, 8] (by decide) rfl (wr := []) rfl (by decide) (by decide) (by decide) rfl rfl hl.1 rfl (Nat.le_of_ble_eq_true rfl) dX3_setOperand_17 ⟨Nat.zero_le _, Nat.zero_le _⟩ (fun H locs hP hD hS => ?_)
    refine lv_iload_n hx hb dX3_setOperand_20 rfl (lv_at hl 3 rfl) ?_
    refine KC.callv (ci := 1) (rest := []) (wt := wP cI o f (ua a 1 (xWrite a (xPairAt f a (4 : Int32)) p2))) (kX1_write l D cI o a (xPairAt f a (4 : Int32)) p2) (cwV 2 hts gX3_setOperand_X1_write rfl rfl rfl (by decide +kernel) ⟨Nat.le_of_ble_eq_true rfl, Nat.le_of_ble_eq_true rfl⟩) ⟨hx, hb, hml, hown, hts⟩ hK hP hD hS hA rfl rfl rfl [2, 3, 4] [0, 1, 5, 6, 7, 8] [0, 1, 6, 7, 8, 2, 3, 4, 5] (by decide) rfl (wr := [_, _, _, _, _, _]) rfl (by decide) (by decide) (by decide) rfl rfl hl.1 rfl (Nat.le_of_ble_eq_true rfl) dX3_setOperand_21 ⟨Nat.zero_le _, Nat.zero_le _⟩ (fun H locs hP hD hS => ?_)
    refine lv_goto (tgt := 34) hx hb dX3_setOperand_24 (by decide) ?_
    have hF : xSetOperand f a p1 p2 = ua a 1 (xWrite a (xPairAt f a (4 : Int32)) p2) := by
      unfold xSetOperand
      refine (if_pos c_1).trans ?_
      rfl
    rw [hF]
    exact KC.retv hx hb hr hlocks hK hP hD hS dX3_setOperand_34
def xSetCarry (f : Nat → Int32) (a : Nat → Nat → Int32) (p1 : Int32) : (Nat → Int32) :=
  upd f 11 (((f 11) &&& (-2 : Int32)) ||| (p1 &&& (1 : Int32)))
set_option maxHeartbeats 4000000 in
set_option maxRecDepth 100000 in
theorem kX3_setCarry (l : Launch) (D : va_G) (cI : ClassId) (o : Nat → Nat) (f : Nat → Int32) (a : Nat → Nat → Int32) (p1 : Int32) : KC l yX3_setCarry wsX3_setCarry 0 [.ref (o 0), .int p1] D cI (wP cI o f a) (wP cI o (xSetCarry f a p1) a) none := by
  refine KC.of (cc := cX3_setCarry) (maxL := 2) (by decide) rfl (Nat.le_of_ble_eq_true rfl) ?_
  intro p e s m below meth c A hx hb hr hts hown hlocks hml hK hP hD hS hA ls hl
  have hl : lv_has ls 2 [(0, .ref (o 0)), (1, .int p1)] := hl
  have hown : s.vm.findClass RX3 = some m.cls := hown
  have hi3 : ∀ w ∈ u_ws RX3 TX3 9, w ∈ wsX3_setCarry := fun w h => List.mem_cons_of_mem _ (List.mem_append_right _ h)
  refine lv_aload_n hx hb dX3_setCarry_0 rfl (lv_at hl 0 rfl) ?_
  refine lv_aload_n hx hb dX3_setCarry_1 rfl (lv_at hl 0 rfl) ?_
  refine va_get (ci := 3) (v := .int (f 11)) (C := RX3) (T := TX3) (N := 9) hx hb hts hi3 hown hK hP 0 rfl rfl 3 (by decide) (hts (.fieldLink RX3 13 "InvaderBoard$Processor" "flags" "I") (List.mem_cons_of_mem _ (List.mem_append_left _ (List.mem_of_getElem? (i := 0) rfl)))) (fun _ h9 => h9) rfl dX3_setCarry_2 ?_
  refine lv_bipush (v := -2) hx hb dX3_setCarry_5 (by decide) ?_
  refine lv_iand hx hb dX3_setCarry_7 ?_
  refine lv_iload_n hx hb dX3_setCarry_8 rfl (lv_at hl 1 rfl) ?_
  refine lv_iconst (v := 1) hx hb dX3_setCarry_9 (by decide) ?_
  refine lv_iand hx hb dX3_setCarry_10 ?_
  refine lv_ior hx hb dX3_setCarry_11 ?_
  refine pu_P_f11 (v := ((f 11) &&& (-2 : Int32)) ||| (p1 &&& (1 : Int32))) hx hb hts hi3 hown hK hP hD hS (hts (.fieldLink RX3 13 "InvaderBoard$Processor" "flags" "I") (List.mem_cons_of_mem _ (List.mem_append_left _ (List.mem_of_getElem? (i := 0) rfl)))) dX3_setCarry_12 (fun H locs hP hD hS => ?_)
  have hF : xSetCarry f a p1 = upd f 11 (((f 11) &&& (-2 : Int32)) ||| (p1 &&& (1 : Int32))) := rfl
  rw [hF]
  exact KC.retv hx hb hr hlocks hK hP hD hS dX3_setCarry_15
def xSetRotated (f : Nat → Int32) (a : Nat → Nat → Int32) (p1 : Int32) (p2 : Int32) : (Nat → Int32) × (Nat → Nat → Int32) :=
  (xSetCarry f (ua a 2 (upd (a 2) (7 : Int32).toNatClampNeg (p1 &&& (255 : Int32)))) p2, ua a 2 (upd (a 2) (7 : Int32).toNatClampNeg (p1 &&& (255 : Int32))))
set_option maxHeartbeats 4000000 in
set_option maxRecDepth 100000 in
theorem kX3_setRotated (l : Launch) (D : va_G) (cI : ClassId) (o : Nat → Nat) (f : Nat → Int32) (a : Nat → Nat → Int32) (p1 : Int32) (p2 : Int32) : KC l yX3_setRotated wsX3_setRotated 1 [.ref (o 0), .int p1, .int p2] D cI (wP cI o f a) (wP cI o ((xSetRotated f a p1 p2).1) ((xSetRotated f a p1 p2).2)) none := by
  refine KC.of (cc := cX3_setRotated) (maxL := 3) (by decide) rfl (Nat.le_of_ble_eq_true rfl) ?_
  intro p e s m below meth c A hx hb hr hts hown hlocks hml hK hP hD hS hA ls hl
  have hl : lv_has ls 3 [(0, .ref (o 0)), (1, .int p1), (2, .int p2)] := hl
  have hown : s.vm.findClass RX3 = some m.cls := hown
  have hi3 : ∀ w ∈ u_ws RX3 TX3 9, w ∈ wsX3_setRotated := fun w h => List.mem_cons_of_mem _ (List.mem_append_right _ h)
  refine lv_aload_n hx hb dX3_setRotated_0 rfl (lv_at hl 0 rfl) ?_
  refine va_get (ci := 3) (v := .ref (o 1)) (C := RX3) (T := TX3) (N := 9) hx hb hts hi3 hown hK hP 0 rfl rfl 2 (by decide) (hts (.fieldLink RX3 9 "InvaderBoard$Processor" "registers" "[I") (List.mem_cons_of_mem _ (List.mem_append_left _ (List.mem_of_getElem? (i := 0) rfl)))) (fun _ h9 => h9) rfl dX3_setRotated_1 ?_
  refine lv_bipush (v := 7) hx hb dX3_setRotated_4 (by decide) ?_
  refine lv_iload_n hx hb dX3_setRotated_6 rfl (lv_at hl 1 rfl) ?_
  refine lv_sipush (v := 255) hx hb dX3_setRotated_7 (by decide) ?_
  refine lv_iand hx hb dX3_setRotated_10 ?_
  refine pu_P_a2 hx hb hK hP hD hS (by unfold vp_in; decide) dX3_setRotated_11 (fun H locs hP hD hS => ?_)
  refine lv_aload_n hx hb dX3_setRotated_12 rfl (lv_at hl 0 rfl) ?_
  refine lv_iload_n hx hb dX3_setRotated_13 rfl (lv_at hl 2 rfl) ?_
  refine KC.callv (ci := 3) (rest := []) (wt := wP cI o (xSetCarry f (ua a 2 (upd (a 2) (7 : Int32).toNatClampNeg (p1 &&& (255 : Int32)))) p2) (ua a 2 (upd (a 2) (7 : Int32).toNatClampNeg (p1 &&& (255 : Int32))))) (kX3_setCarry l D cI o f (ua a 2 (upd (a 2) (7 : Int32).toNatClampNeg (p1 &&& (255 : Int32)))) p2) (cwV 1 hts gX3_setRotated_X3_setCarry rfl rfl rfl (by decide +kernel) ⟨Nat.le_of_ble_eq_true rfl, Nat.le_of_ble_eq_true rfl⟩) ⟨hx, hb, hml, hown, hts⟩ hK hP hD hS hA rfl rfl rfl [0, 1, 2, 3, 4, 5, 6, 7, 8] [] [0, 1, 2, 3, 4, 5, 6, 7, 8] (by decide) rfl (wr := []) rfl (by decide) (by decide) (by decide) rfl rfl hl.1 rfl (Nat.le_of_ble_eq_true rfl) dX3_setRotated_14 ⟨Nat.zero_le _, Nat.zero_le _⟩ (fun H locs hP hD hS => ?_)
  have hF : xSetRotated f a p1 p2 = (xSetCarry f (ua a 2 (upd (a 2) (7 : Int32).toNatClampNeg (p1 &&& (255 : Int32)))) p2, ua a 2 (upd (a 2) (7 : Int32).toNatClampNeg (p1 &&& (255 : Int32)))) := rfl
  rw [hF]
  exact KC.retv hx hb hr hlocks hK hP hD hS dX3_setRotated_17
def xAddToHl (f : Nat → Int32) (a : Nat → Nat → Int32) (p1 : Int32) : (Nat → Int32) × (Nat → Nat → Int32) :=
  (xSetCarry f (xSetPairAt f a (4 : Int32) ((xPairAt f a (4 : Int32)) + p1)) (((xPairAt f a (4 : Int32)) + p1) >>> ((16 : Int32) &&& 31)), xSetPairAt f a (4 : Int32) ((xPairAt f a (4 : Int32)) + p1))
set_option maxHeartbeats 4000000 in
set_option maxRecDepth 100000 in
theorem kX3_addToHl (l : Launch) (D : va_G) (cI : ClassId) (o : Nat → Nat) (f : Nat → Int32) (a : Nat → Nat → Int32) (p1 : Int32) : KC l yX3_addToHl wsX3_addToHl 1 [.ref (o 0), .int p1] D cI (wP cI o f a) (wP cI o ((xAddToHl f a p1).1) ((xAddToHl f a p1).2)) none := by
  refine KC.of (cc := cX3_addToHl) (maxL := 3) (by decide) rfl (Nat.le_of_ble_eq_true rfl) ?_
  intro p e s m below meth c A hx hb hr hts hown hlocks hml hK hP hD hS hA ls hl
  have hl : lv_has ls 3 [(0, .ref (o 0)), (1, .int p1)] := hl
  have hown : s.vm.findClass RX3 = some m.cls := hown
  refine lv_aload_n hx hb dX3_addToHl_0 rfl (lv_at hl 0 rfl) ?_
  refine lv_iconst (v := 4) hx hb dX3_addToHl_1 (by decide) ?_
  refine KC.calli (ci := 3) (rest := []) (wt := wP cI o f a) (kX3_pairAt l D cI o f a (4 : Int32)) (cwV 1 hts gX3_addToHl_X3_pairAt rfl rfl rfl (by decide +kernel) ⟨Nat.le_of_ble_eq_true rfl, Nat.le_of_ble_eq_true rfl⟩) ⟨hx, hb, hml, hown, hts⟩ hK hP hD hS hA rfl rfl rfl [0, 1, 2, 3, 4, 5, 6, 7, 8] [] [0, 1, 2, 3, 4, 5, 6, 7, 8] (by decide) rfl (wr := []) rfl (by decide) (by decide) (by decide) rfl rfl hl.1 rfl (Nat.le_of_ble_eq_true rfl) dX3_addToHl_2 ⟨Nat.zero_le _, Nat.zero_le _⟩ (fun H locs hP hD hS => ?_)
  refine lv_iload_n hx hb dX3_addToHl_5 rfl (lv_at hl 1 rfl) ?_
  refine lv_iadd hx hb dX3_addToHl_6 ?_
  refine lv_istore_n (lv' := [(2, .int _), (0, .ref _), (1, .int _)]) hx hb dX3_addToHl_7 rfl hl (by decide) rfl (fun ls hl => ?_)
  refine lv_aload_n hx hb dX3_addToHl_8 rfl (lv_at hl 1 rfl) ?_
  refine lv_iconst (v := 4) hx hb dX3_addToHl_9 (by decide) ?_
  refine lv_iload_n hx hb dX3_addToHl_10 rfl (lv_at hl 0 rfl) ?_
  refine KC.callv (ci := 3) (rest := []) (wt := wP cI o f (xSetPairAt f a (4 : Int32) ((xPairAt f a (4 : Int32)) + p1))) (kX3_setPairAt l D cI o f a (4 : Int32) ((xPairAt f a (4 : Int32)) + p1)) (cwV 2 hts gX3_addToHl_X3_setPairAt rfl rfl rfl (by decide +kernel) ⟨Nat.le_of_ble_eq_true rfl, Nat.le_of_ble_eq_true rfl⟩) ⟨hx, hb, hml, hown, hts⟩ hK hP hD hS hA rfl rfl rfl [0, 1, 2, 3, 4, 5, 6, 7, 8] [] [0, 1, 2, 3, 4, 5, 6, 7, 8] (by decide) rfl (wr := []) rfl (by decide) (by decide) (by decide) rfl rfl hl.1 rfl (Nat.le_of_ble_eq_true rfl) dX3_addToHl_11 ⟨Nat.zero_le _, Nat.zero_le _⟩ (fun H locs hP hD hS => ?_)
  refine lv_aload_n hx hb dX3_addToHl_14 rfl (lv_at hl 1 rfl) ?_
  refine lv_iload_n hx hb dX3_addToHl_15 rfl (lv_at hl 0 rfl) ?_
  refine lv_bipush (v := 16) hx hb dX3_addToHl_16 (by decide) ?_
  refine lv_ishr hx hb dX3_addToHl_18 ?_
  refine KC.callv (ci := 3) (rest := []) (wt := wP cI o (xSetCarry f (xSetPairAt f a (4 : Int32) ((xPairAt f a (4 : Int32)) + p1)) (((xPairAt f a (4 : Int32)) + p1) >>> ((16 : Int32) &&& 31))) (xSetPairAt f a (4 : Int32) ((xPairAt f a (4 : Int32)) + p1))) (kX3_setCarry l D cI o f (xSetPairAt f a (4 : Int32) ((xPairAt f a (4 : Int32)) + p1)) (((xPairAt f a (4 : Int32)) + p1) >>> ((16 : Int32) &&& 31))) (cwV 1 hts gX3_addToHl_X3_setCarry rfl rfl rfl (by decide +kernel) ⟨Nat.le_of_ble_eq_true rfl, Nat.le_of_ble_eq_true rfl⟩) ⟨hx, hb, hml, hown, hts⟩ hK hP hD hS hA rfl rfl rfl [0, 1, 2, 3, 4, 5, 6, 7, 8] [] [0, 1, 2, 3, 4, 5, 6, 7, 8] (by decide) rfl (wr := []) rfl (by decide) (by decide) (by decide) rfl rfl hl.1 rfl (Nat.le_of_ble_eq_true rfl) dX3_addToHl_19 ⟨Nat.zero_le _, Nat.zero_le _⟩ (fun H locs hP hD hS => ?_)
  have hF : xAddToHl f a p1 = (xSetCarry f (xSetPairAt f a (4 : Int32) ((xPairAt f a (4 : Int32)) + p1)) (((xPairAt f a (4 : Int32)) + p1) >>> ((16 : Int32) &&& 31)), xSetPairAt f a (4 : Int32) ((xPairAt f a (4 : Int32)) + p1)) := rfl
  rw [hF]
  exact KC.retv hx hb hr hlocks hK hP hD hS dX3_addToHl_22
def xAdd (f : Nat → Int32) (a : Nat → Nat → Int32) (p1 : Int32) (p2 : Int32) (p3 : Int32) (p4 : Int32) : Int32 × (Nat → Int32) :=
  (((p1 + p2) + p3) &&& (255 : Int32), upd f 11 (((xFlagsOf (((p1 + p2) + p3) &&& (255 : Int32))) ||| ((((p1 &&& (15 : Int32)) + (p2 &&& (15 : Int32))) + p3) &&& (16 : Int32))) ||| (((((p1 + p2) + p3) >>> ((8 : Int32) &&& 31)) &&& (1 : Int32)) ^^^ p4)))
set_option maxHeartbeats 4000000 in
set_option maxRecDepth 100000 in
theorem kX3_add (l : Launch) (D : va_G) (cI : ClassId) (o : Nat → Nat) (f : Nat → Int32) (a : Nat → Nat → Int32) (p1 : Int32) (p2 : Int32) (p3 : Int32) (p4 : Int32) : KC l yX3_add wsX3_add 2 [.ref (o 0), .int p1, .int p2, .int p3, .int p4] D cI (wP cI o f a) (wP cI o ((xAdd f a p1 p2 p3 p4).2) a) (some (.int (xAdd f a p1 p2 p3 p4).1)) := by
  refine KC.of (cc := cX3_add) (maxL := 8) (by decide) rfl (Nat.le_of_ble_eq_true rfl) ?_
  intro p e s m below meth c A hx hb hr hts hown hlocks hml hK hP hD hS hA ls hl
  have hl : lv_has ls 8 [(0, .ref (o 0)), (1, .int p1), (2, .int p2), (3, .int p3), (4, .int p4)] := hl
  have hown : s.vm.findClass RX3 = some m.cls := hown
  have hi3 : ∀ w ∈ u_ws RX3 TX3 9, w ∈ wsX3_add := fun w h => List.mem_cons_of_mem _ (List.mem_append_right _ h)
  refine lv_iload_n hx hb dX3_add_0 rfl (lv_at hl 1 rfl) ?_
  refine lv_iload_n hx hb dX3_add_1 rfl (lv_at hl 2 rfl) ?_
  refine lv_iadd hx hb dX3_add_2 ?_
  refine lv_iload_n hx hb dX3_add_3 rfl (lv_at hl 3 rfl) ?_
  refine lv_iadd hx hb dX3_add_4 ?_
  refine lv_istore (lv' := [(5, .int _), (0, .ref _), (1, .int _), (2, .int _), (3, .int _), (4, .int _)]) hx hb dX3_add_5 hl (by decide) rfl (fun ls hl => ?_)
  refine lv_iload_n hx hb dX3_add_7 rfl (lv_at hl 2 rfl) ?_
  refine lv_bipush (v := 15) hx hb dX3_add_8 (by decide) ?_
  refine lv_iand hx hb dX3_add_10 ?_
  refine lv_iload_n hx hb dX3_add_11 rfl (lv_at hl 3 rfl) ?_
  refine lv_bipush (v := 15) hx hb dX3_add_12 (by decide) ?_
  refine lv_iand hx hb dX3_add_14 ?_
  refine lv_iadd hx hb dX3_add_15 ?_
  refine lv_iload_n hx hb dX3_add_16 rfl (lv_at hl 4 rfl) ?_
  refine lv_iadd hx hb dX3_add_17 ?_
  refine lv_bipush (v := 16) hx hb dX3_add_18 (by decide) ?_
  refine lv_iand hx hb dX3_add_20 ?_
  refine lv_istore (lv' := [(6, .int _), (5, .int _), (0, .ref _), (1, .int _), (2, .int _), (3, .int _), (4, .int _)]) hx hb dX3_add_21 hl (by decide) rfl (fun ls hl => ?_)
  refine lv_iload hx hb dX3_add_23 (lv_at hl 1 rfl) ?_
  refine lv_bipush (v := 8) hx hb dX3_add_25 (by decide) ?_
  refine lv_ishr hx hb dX3_add_27 ?_
  refine lv_iconst (v := 1) hx hb dX3_add_28 (by decide) ?_
  refine lv_iand hx hb dX3_add_29 ?_
  refine lv_iload hx hb dX3_add_30 (lv_at hl 6 rfl) ?_
  refine lv_ixor hx hb dX3_add_32 ?_
  refine lv_istore (lv' := [(7, .int _), (6, .int _), (5, .int _), (0, .ref _), (1, .int _), (2, .int _), (3, .int _), (4, .int _)]) hx hb dX3_add_33 hl (by decide) rfl (fun ls hl => ?_)
  refine lv_aload_n hx hb dX3_add_35 rfl (lv_at hl 3 rfl) ?_
  refine lv_iload hx hb dX3_add_36 (lv_at hl 2 rfl) ?_
  refine lv_sipush (v := 255) hx hb dX3_add_38 (by decide) ?_
  refine lv_iand hx hb dX3_add_41 ?_
  refine KC.callS (rest := [.ref (o 0)]) (kX3_flagsOf l D cI (((p1 + p2) + p3) &&& (255 : Int32))) (va_cwS 1 hts gX3_add_X3_flagsOf rfl rfl rfl (by decide +kernel) ⟨Nat.le_of_ble_eq_true rfl, Nat.le_of_ble_eq_true rfl⟩) ⟨hx, hb, hml, hown, hts⟩ hK hP hD hS hA rfl hl.1 rfl (Nat.le_of_ble_eq_true rfl) dX3_add_42 ⟨Nat.zero_le _, Nat.zero_le _⟩ (fun H locs hP hD hS => ?_)
  refine lv_iload hx hb dX3_add_45 (lv_at hl 1 rfl) ?_
  refine lv_ior hx hb dX3_add_47 ?_
  refine lv_iload hx hb dX3_add_48 (lv_at hl 0 rfl) ?_
  refine lv_ior hx hb dX3_add_50 ?_
  refine pu_P_f11 (v := ((xFlagsOf (((p1 + p2) + p3) &&& (255 : Int32))) ||| ((((p1 &&& (15 : Int32)) + (p2 &&& (15 : Int32))) + p3) &&& (16 : Int32))) ||| (((((p1 + p2) + p3) >>> ((8 : Int32) &&& 31)) &&& (1 : Int32)) ^^^ p4)) hx hb hts hi3 hown hK hP hD hS (hts (.fieldLink RX3 13 "InvaderBoard$Processor" "flags" "I") (List.mem_cons_of_mem _ (List.mem_append_left _ (List.mem_of_getElem? (i := 0) rfl)))) dX3_add_51 (fun H locs hP hD hS => ?_)
  refine lv_iload hx hb dX3_add_54 (lv_at hl 2 rfl) ?_
  refine lv_sipush (v := 255) hx hb dX3_add_56 (by decide) ?_
  refine lv_iand hx hb dX3_add_59 ?_
  have hF : xAdd f a p1 p2 p3 p4 = (((p1 + p2) + p3) &&& (255 : Int32), upd f 11 (((xFlagsOf (((p1 + p2) + p3) &&& (255 : Int32))) ||| ((((p1 &&& (15 : Int32)) + (p2 &&& (15 : Int32))) + p3) &&& (16 : Int32))) ||| (((((p1 + p2) + p3) >>> ((8 : Int32) &&& 31)) &&& (1 : Int32)) ^^^ p4))) := rfl
  rw [hF]
  exact KC.reti hx hb hr hlocks hK hP hD hS dX3_add_60 rfl
def xSetLogical (f : Nat → Int32) (a : Nat → Nat → Int32) (p1 : Int32) (p2 : Int32) : (Nat → Int32) × (Nat → Nat → Int32) :=
  (upd f 11 ((xFlagsOf p1) ||| p2), ua a 2 (upd (a 2) (7 : Int32).toNatClampNeg p1))
set_option maxHeartbeats 4000000 in
set_option maxRecDepth 100000 in
theorem kX3_setLogical (l : Launch) (D : va_G) (cI : ClassId) (o : Nat → Nat) (f : Nat → Int32) (a : Nat → Nat → Int32) (p1 : Int32) (p2 : Int32) : KC l yX3_setLogical wsX3_setLogical 2 [.ref (o 0), .int p1, .int p2] D cI (wP cI o f a) (wP cI o ((xSetLogical f a p1 p2).1) ((xSetLogical f a p1 p2).2)) none := by
  refine KC.of (cc := cX3_setLogical) (maxL := 3) (by decide) rfl (Nat.le_of_ble_eq_true rfl) ?_
  intro p e s m below meth c A hx hb hr hts hown hlocks hml hK hP hD hS hA ls hl
  have hl : lv_has ls 3 [(0, .ref (o 0)), (1, .int p1), (2, .int p2)] := hl
  have hown : s.vm.findClass RX3 = some m.cls := hown
  have hi3 : ∀ w ∈ u_ws RX3 TX3 9, w ∈ wsX3_setLogical := fun w h => List.mem_cons_of_mem _ (List.mem_append_right _ h)
  refine lv_aload_n hx hb dX3_setLogical_0 rfl (lv_at hl 0 rfl) ?_
  refine va_get (ci := 3) (v := .ref (o 1)) (C := RX3) (T := TX3) (N := 9) hx hb hts hi3 hown hK hP 0 rfl rfl 2 (by decide) (hts (.fieldLink RX3 9 "InvaderBoard$Processor" "registers" "[I") (List.mem_cons_of_mem _ (List.mem_append_left _ (List.mem_of_getElem? (i := 0) rfl)))) (fun _ h9 => h9) rfl dX3_setLogical_1 ?_
  refine lv_bipush (v := 7) hx hb dX3_setLogical_4 (by decide) ?_
  refine lv_iload_n hx hb dX3_setLogical_6 rfl (lv_at hl 1 rfl) ?_
  refine pu_P_a2 hx hb hK hP hD hS (by unfold vp_in; decide) dX3_setLogical_7 (fun H locs hP hD hS => ?_)
  refine lv_aload_n hx hb dX3_setLogical_8 rfl (lv_at hl 0 rfl) ?_
  refine lv_iload_n hx hb dX3_setLogical_9 rfl (lv_at hl 1 rfl) ?_
  refine KC.callS (rest := [.ref (o 0)]) (kX3_flagsOf l D cI p1) (va_cwS 1 hts gX3_setLogical_X3_flagsOf rfl rfl rfl (by decide +kernel) ⟨Nat.le_of_ble_eq_true rfl, Nat.le_of_ble_eq_true rfl⟩) ⟨hx, hb, hml, hown, hts⟩ hK hP hD hS hA rfl hl.1 rfl (Nat.le_of_ble_eq_true rfl) dX3_setLogical_10 ⟨Nat.zero_le _, Nat.zero_le _⟩ (fun H locs hP hD hS => ?_)
  refine lv_iload_n hx hb dX3_setLogical_13 rfl (lv_at hl 2 rfl) ?_
  refine lv_ior hx hb dX3_setLogical_14 ?_
  refine pu_P_f11 (v := (xFlagsOf p1) ||| p2) hx hb hts hi3 hown hK hP hD hS (hts (.fieldLink RX3 13 "InvaderBoard$Processor" "flags" "I") (List.mem_cons_of_mem _ (List.mem_append_left _ (List.mem_of_getElem? (i := 1) rfl)))) dX3_setLogical_15 (fun H locs hP hD hS => ?_)
  have hF : xSetLogical f a p1 p2 = (upd f 11 ((xFlagsOf p1) ||| p2), ua a 2 (upd (a 2) (7 : Int32).toNatClampNeg p1)) := rfl
  rw [hF]
  exact KC.retv hx hb hr hlocks hK hP hD hS dX3_setLogical_18
def xIncrement (f : Nat → Int32) (a : Nat → Nat → Int32) (p1 : Int32) : Int32 × (Nat → Int32) :=
  if ((p1 + (1 : Int32)) &&& (255 : Int32)) &&& (15 : Int32) = 0 then ((p1 + (1 : Int32)) &&& (255 : Int32), upd f 11 (((xFlagsOf ((p1 + (1 : Int32)) &&& (255 : Int32))) ||| (16 : Int32)) ||| ((f 11) &&& (1 : Int32))))
  else ((p1 + (1 : Int32)) &&& (255 : Int32), upd f 11 (((xFlagsOf ((p1 + (1 : Int32)) &&& (255 : Int32))) ||| (0 : Int32)) ||| ((f 11) &&& (1 : Int32))))
set_option maxHeartbeats 4000000 in
set_option maxRecDepth 100000 in
theorem kX3_increment (l : Launch) (D : va_G) (cI : ClassId) (o : Nat → Nat) (f : Nat → Int32) (a : Nat → Nat → Int32) (p1 : Int32) : KC l yX3_increment wsX3_increment 2 [.ref (o 0), .int p1] D cI (wP cI o f a) (wP cI o ((xIncrement f a p1).2) a) (some (.int (xIncrement f a p1).1)) := by
  refine KC.of (cc := cX3_increment) (maxL := 4) (by decide) rfl (Nat.le_of_ble_eq_true rfl) ?_
  intro p e s m below meth c A hx hb hr hts hown hlocks hml hK hP hD hS hA ls hl
  have hl : lv_has ls 4 [(0, .ref (o 0)), (1, .int p1)] := hl
  have hown : s.vm.findClass RX3 = some m.cls := hown
  have hi3 : ∀ w ∈ u_ws RX3 TX3 9, w ∈ wsX3_increment := fun w h => List.mem_cons_of_mem _ (List.mem_append_right _ h)
  refine lv_iload_n hx hb dX3_increment_0 rfl (lv_at hl 1 rfl) ?_
  refine lv_iconst (v := 1) hx hb dX3_increment_1 (by decide) ?_
  refine lv_iadd hx hb dX3_increment_2 ?_
  refine lv_sipush (v := 255) hx hb dX3_increment_3 (by decide) ?_
  refine lv_iand hx hb dX3_increment_6 ?_
  refine lv_istore_n (lv' := [(2, .int _), (0, .ref _), (1, .int _)]) hx hb dX3_increment_7 rfl hl (by decide) rfl (fun ls hl => ?_)
  refine lv_iload_n hx hb dX3_increment_8 rfl (lv_at hl 0 rfl) ?_
  refine lv_bipush (v := 15) hx hb dX3_increment_9 (by decide) ?_
  refine lv_iand hx hb dX3_increment_11 ?_
  refine lv_if_ne (tgt := 20) hx hb dX3_increment_12 (by decide) (fun c_1 => ?_) (fun c_1 => ?_)
  · refine lv_iconst (v := 0) hx hb dX3_increment_20 (by decide) ?_
    refine lv_istore_n (lv' := [(3, .int _), (2, .int _), (0, .ref _), (1, .int _)]) hx hb dX3_increment_21 rfl hl (by decide) rfl (fun ls hl => ?_)
    refine lv_aload_n hx hb dX3_increment_22 rfl (lv_at hl 2 rfl) ?_
    refine lv_iload_n hx hb dX3_increment_23 rfl (lv_at hl 1 rfl) ?_
    refine KC.callS (rest := [.ref (o 0)]) (kX3_flagsOf l D cI ((p1 + (1 : Int32)) &&& (255 : Int32))) (va_cwS 1 hts gX3_increment_X3_flagsOf rfl rfl rfl (by decide +kernel) ⟨Nat.le_of_ble_eq_true rfl, Nat.le_of_ble_eq_true rfl⟩) ⟨hx, hb, hml, hown, hts⟩ hK hP hD hS hA rfl hl.1 rfl (Nat.le_of_ble_eq_true rfl) dX3_increment_24 ⟨Nat.zero_le _, Nat.zero_le _⟩ (fun H locs hP hD hS => ?_)
    refine lv_iload_n hx hb dX3_increment_27 rfl (lv_at hl 0 rfl) ?_
    refine lv_ior hx hb dX3_increment_28 ?_
    refine lv_aload_n hx hb dX3_increment_29 rfl (lv_at hl 2 rfl) ?_
    refine va_get (ci := 3) (v := .int (f 11)) (C := RX3) (T := TX3) (N := 9) hx hb hts hi3 hown hK hP 0 rfl rfl 3 (by decide) (hts (.fieldLink RX3 13 "InvaderBoard$Processor" "flags" "I") (List.mem_cons_of_mem _ (List.mem_append_left _ (List.mem_of_getElem? (i := 0) rfl)))) (fun _ h9 => h9) rfl dX3_increment_30 ?_
    refine lv_iconst (v := 1) hx hb dX3_increment_33 (by decide) ?_
    refine lv_iand hx hb dX3_increment_34 ?_
    refine lv_ior hx hb dX3_increment_35 ?_
    refine pu_P_f11 (v := ((xFlagsOf ((p1 + (1 : Int32)) &&& (255 : Int32))) ||| (0 : Int32)) ||| ((f 11) &&& (1 : Int32))) hx hb hts hi3 hown hK hP hD hS (hts (.fieldLink RX3 13 "InvaderBoard$Processor" "flags" "I") (List.mem_cons_of_mem _ (List.mem_append_left _ (List.mem_of_getElem? (i := 0) rfl)))) dX3_increment_36 (fun H locs hP hD hS => ?_)
    refine lv_iload_n hx hb dX3_increment_39 rfl (lv_at hl 1 rfl) ?_
    have hF : xIncrement f a p1 = ((p1 + (1 : Int32)) &&& (255 : Int32), upd f 11 (((xFlagsOf ((p1 + (1 : Int32)) &&& (255 : Int32))) ||| (0 : Int32)) ||| ((f 11) &&& (1 : Int32)))) := by
      unfold xIncrement
      refine (if_neg c_1).trans ?_
      rfl
    rw [hF]
    exact KC.reti hx hb hr hlocks hK hP hD hS dX3_increment_40 rfl
  · refine lv_bipush (v := 16) hx hb dX3_increment_15 (by decide) ?_
    refine lv_goto (tgt := 21) hx hb dX3_increment_17 (by decide) ?_
    refine lv_istore_n (lv' := [(3, .int _), (2, .int _), (0, .ref _), (1, .int _)]) hx hb dX3_increment_21 rfl hl (by decide) rfl (fun ls hl => ?_)
    refine lv_aload_n hx hb dX3_increment_22 rfl (lv_at hl 2 rfl) ?_
    refine lv_iload_n hx hb dX3_increment_23 rfl (lv_at hl 1 rfl) ?_
    refine KC.callS (rest := [.ref (o 0)]) (kX3_flagsOf l D cI ((p1 + (1 : Int32)) &&& (255 : Int32))) (va_cwS 1 hts gX3_increment_X3_flagsOf rfl rfl rfl (by decide +kernel) ⟨Nat.le_of_ble_eq_true rfl, Nat.le_of_ble_eq_true rfl⟩) ⟨hx, hb, hml, hown, hts⟩ hK hP hD hS hA rfl hl.1 rfl (Nat.le_of_ble_eq_true rfl) dX3_increment_24 ⟨Nat.zero_le _, Nat.zero_le _⟩ (fun H locs hP hD hS => ?_)
    refine lv_iload_n hx hb dX3_increment_27 rfl (lv_at hl 0 rfl) ?_
    refine lv_ior hx hb dX3_increment_28 ?_
    refine lv_aload_n hx hb dX3_increment_29 rfl (lv_at hl 2 rfl) ?_
    refine va_get (ci := 3) (v := .int (f 11)) (C := RX3) (T := TX3) (N := 9) hx hb hts hi3 hown hK hP 0 rfl rfl 3 (by decide) (hts (.fieldLink RX3 13 "InvaderBoard$Processor" "flags" "I") (List.mem_cons_of_mem _ (List.mem_append_left _ (List.mem_of_getElem? (i := 0) rfl)))) (fun _ h9 => h9) rfl dX3_increment_30 ?_
    refine lv_iconst (v := 1) hx hb dX3_increment_33 (by decide) ?_
    refine lv_iand hx hb dX3_increment_34 ?_
    refine lv_ior hx hb dX3_increment_35 ?_
    refine pu_P_f11 (v := ((xFlagsOf ((p1 + (1 : Int32)) &&& (255 : Int32))) ||| (16 : Int32)) ||| ((f 11) &&& (1 : Int32))) hx hb hts hi3 hown hK hP hD hS (hts (.fieldLink RX3 13 "InvaderBoard$Processor" "flags" "I") (List.mem_cons_of_mem _ (List.mem_append_left _ (List.mem_of_getElem? (i := 0) rfl)))) dX3_increment_36 (fun H locs hP hD hS => ?_)
    refine lv_iload_n hx hb dX3_increment_39 rfl (lv_at hl 1 rfl) ?_
    have hF : xIncrement f a p1 = ((p1 + (1 : Int32)) &&& (255 : Int32), upd f 11 (((xFlagsOf ((p1 + (1 : Int32)) &&& (255 : Int32))) ||| (16 : Int32)) ||| ((f 11) &&& (1 : Int32)))) := by
      unfold xIncrement
      refine (if_pos c_1).trans ?_
      rfl
    rw [hF]
    exact KC.reti hx hb hr hlocks hK hP hD hS dX3_increment_40 rfl
def xDecrement (f : Nat → Int32) (a : Nat → Nat → Int32) (p1 : Int32) : Int32 × (Nat → Int32) :=
  if ((p1 - (1 : Int32)) &&& (255 : Int32)) &&& (15 : Int32) = (15 : Int32) then ((p1 - (1 : Int32)) &&& (255 : Int32), upd f 11 (((xFlagsOf ((p1 - (1 : Int32)) &&& (255 : Int32))) ||| (0 : Int32)) ||| ((f 11) &&& (1 : Int32))))
  else ((p1 - (1 : Int32)) &&& (255 : Int32), upd f 11 (((xFlagsOf ((p1 - (1 : Int32)) &&& (255 : Int32))) ||| (16 : Int32)) ||| ((f 11) &&& (1 : Int32))))
set_option maxHeartbeats 4000000 in
set_option maxRecDepth 100000 in
theorem kX3_decrement (l : Launch) (D : va_G) (cI : ClassId) (o : Nat → Nat) (f : Nat → Int32) (a : Nat → Nat → Int32) (p1 : Int32) : KC l yX3_decrement wsX3_decrement 2 [.ref (o 0), .int p1] D cI (wP cI o f a) (wP cI o ((xDecrement f a p1).2) a) (some (.int (xDecrement f a p1).1)) := by
  refine KC.of (cc := cX3_decrement) (maxL := 4) (by decide) rfl (Nat.le_of_ble_eq_true rfl) ?_
  intro p e s m below meth c A hx hb hr hts hown hlocks hml hK hP hD hS hA ls hl
  have hl : lv_has ls 4 [(0, .ref (o 0)), (1, .int p1)] := hl
  have hown : s.vm.findClass RX3 = some m.cls := hown
  have hi3 : ∀ w ∈ u_ws RX3 TX3 9, w ∈ wsX3_decrement := fun w h => List.mem_cons_of_mem _ (List.mem_append_right _ h)
  refine lv_iload_n hx hb dX3_decrement_0 rfl (lv_at hl 1 rfl) ?_
  refine lv_iconst (v := 1) hx hb dX3_decrement_1 (by decide) ?_
  refine lv_isub hx hb dX3_decrement_2 ?_
  refine lv_sipush (v := 255) hx hb dX3_decrement_3 (by decide) ?_
  refine lv_iand hx hb dX3_decrement_6 ?_
  refine lv_istore_n (lv' := [(2, .int _), (0, .ref _), (1, .int _)]) hx hb dX3_decrement_7 rfl hl (by decide) rfl (fun ls hl => ?_)
  refine lv_iload_n hx hb dX3_decrement_8 rfl (lv_at hl 0 rfl) ?_
  refine lv_bipush (v := 15) hx hb dX3_decrement_9 (by decide) ?_
  refine lv_iand hx hb dX3_decrement_11 ?_
  refine lv_bipush (v := 15) hx hb dX3_decrement_12 (by decide) ?_
  refine lv_icmp_ne (tgt := 21) hx hb dX3_decrement_14 (by decide) (fun c_1 => ?_) (fun c_1 => ?_)
  · refine lv_bipush (v := 16) hx hb dX3_decrement_21 (by decide) ?_
    refine lv_istore_n (lv' := [(3, .int _), (2, .int _), (0, .ref _), (1, .int _)]) hx hb dX3_decrement_23 rfl hl (by decide) rfl (fun ls hl => ?_)
    refine lv_aload_n hx hb dX3_decrement_24 rfl (lv_at hl 2 rfl) ?_
    refine lv_iload_n hx hb dX3_decrement_25 rfl (lv_at hl 1 rfl) ?_
    refine KC.callS (rest := [.ref (o 0)]) (kX3_flagsOf l D cI ((p1 - (1 : Int32)) &&& (255 : Int32))) (va_cwS 1 hts gX3_decrement_X3_flagsOf rfl rfl rfl (by decide +kernel) ⟨Nat.le_of_ble_eq_true rfl, Nat.le_of_ble_eq_true rfl⟩) ⟨hx, hb, hml, hown, hts⟩ hK hP hD hS hA rfl hl.1 rfl (Nat.le_of_ble_eq_true rfl) dX3_decrement_26 ⟨Nat.zero_le _, Nat.zero_le _⟩ (fun H locs hP hD hS => ?_)
    refine lv_iload_n hx hb dX3_decrement_29 rfl (lv_at hl 0 rfl) ?_
    refine lv_ior hx hb dX3_decrement_30 ?_
    refine lv_aload_n hx hb dX3_decrement_31 rfl (lv_at hl 2 rfl) ?_
    refine va_get (ci := 3) (v := .int (f 11)) (C := RX3) (T := TX3) (N := 9) hx hb hts hi3 hown hK hP 0 rfl rfl 3 (by decide) (hts (.fieldLink RX3 13 "InvaderBoard$Processor" "flags" "I") (List.mem_cons_of_mem _ (List.mem_append_left _ (List.mem_of_getElem? (i := 0) rfl)))) (fun _ h9 => h9) rfl dX3_decrement_32 ?_
    refine lv_iconst (v := 1) hx hb dX3_decrement_35 (by decide) ?_
    refine lv_iand hx hb dX3_decrement_36 ?_
    refine lv_ior hx hb dX3_decrement_37 ?_
    refine pu_P_f11 (v := ((xFlagsOf ((p1 - (1 : Int32)) &&& (255 : Int32))) ||| (16 : Int32)) ||| ((f 11) &&& (1 : Int32))) hx hb hts hi3 hown hK hP hD hS (hts (.fieldLink RX3 13 "InvaderBoard$Processor" "flags" "I") (List.mem_cons_of_mem _ (List.mem_append_left _ (List.mem_of_getElem? (i := 0) rfl)))) dX3_decrement_38 (fun H locs hP hD hS => ?_)
    refine lv_iload_n hx hb dX3_decrement_41 rfl (lv_at hl 1 rfl) ?_
    have hF : xDecrement f a p1 = ((p1 - (1 : Int32)) &&& (255 : Int32), upd f 11 (((xFlagsOf ((p1 - (1 : Int32)) &&& (255 : Int32))) ||| (16 : Int32)) ||| ((f 11) &&& (1 : Int32)))) := by
      unfold xDecrement
      refine (if_neg c_1).trans ?_
      rfl
    rw [hF]
    exact KC.reti hx hb hr hlocks hK hP hD hS dX3_decrement_42 rfl
  · refine lv_iconst (v := 0) hx hb dX3_decrement_17 (by decide) ?_
    refine lv_goto (tgt := 23) hx hb dX3_decrement_18 (by decide) ?_
    refine lv_istore_n (lv' := [(3, .int _), (2, .int _), (0, .ref _), (1, .int _)]) hx hb dX3_decrement_23 rfl hl (by decide) rfl (fun ls hl => ?_)
    refine lv_aload_n hx hb dX3_decrement_24 rfl (lv_at hl 2 rfl) ?_
    refine lv_iload_n hx hb dX3_decrement_25 rfl (lv_at hl 1 rfl) ?_
    refine KC.callS (rest := [.ref (o 0)]) (kX3_flagsOf l D cI ((p1 - (1 : Int32)) &&& (255 : Int32))) (va_cwS 1 hts gX3_decrement_X3_flagsOf rfl rfl rfl (by decide +kernel) ⟨Nat.le_of_ble_eq_true rfl, Nat.le_of_ble_eq_true rfl⟩) ⟨hx, hb, hml, hown, hts⟩ hK hP hD hS hA rfl hl.1 rfl (Nat.le_of_ble_eq_true rfl) dX3_decrement_26 ⟨Nat.zero_le _, Nat.zero_le _⟩ (fun H locs hP hD hS => ?_)
    refine lv_iload_n hx hb dX3_decrement_29 rfl (lv_at hl 0 rfl) ?_
    refine lv_ior hx hb dX3_decrement_30 ?_
    refine lv_aload_n hx hb dX3_decrement_31 rfl (lv_at hl 2 rfl) ?_
    refine va_get (ci := 3) (v := .int (f 11)) (C := RX3) (T := TX3) (N := 9) hx hb hts hi3 hown hK hP 0 rfl rfl 3 (by decide) (hts (.fieldLink RX3 13 "InvaderBoard$Processor" "flags" "I") (List.mem_cons_of_mem _ (List.mem_append_left _ (List.mem_of_getElem? (i := 0) rfl)))) (fun _ h9 => h9) rfl dX3_decrement_32 ?_
    refine lv_iconst (v := 1) hx hb dX3_decrement_35 (by decide) ?_
    refine lv_iand hx hb dX3_decrement_36 ?_
    refine lv_ior hx hb dX3_decrement_37 ?_
    refine pu_P_f11 (v := ((xFlagsOf ((p1 - (1 : Int32)) &&& (255 : Int32))) ||| (0 : Int32)) ||| ((f 11) &&& (1 : Int32))) hx hb hts hi3 hown hK hP hD hS (hts (.fieldLink RX3 13 "InvaderBoard$Processor" "flags" "I") (List.mem_cons_of_mem _ (List.mem_append_left _ (List.mem_of_getElem? (i := 0) rfl)))) dX3_decrement_38 (fun H locs hP hD hS => ?_)
    refine lv_iload_n hx hb dX3_decrement_41 rfl (lv_at hl 1 rfl) ?_
    have hF : xDecrement f a p1 = ((p1 - (1 : Int32)) &&& (255 : Int32), upd f 11 (((xFlagsOf ((p1 - (1 : Int32)) &&& (255 : Int32))) ||| (0 : Int32)) ||| ((f 11) &&& (1 : Int32)))) := by
      unfold xDecrement
      refine (if_pos c_1).trans ?_
      rfl
    rw [hF]
    exact KC.reti hx hb hr hlocks hK hP hD hS dX3_decrement_42 rfl
