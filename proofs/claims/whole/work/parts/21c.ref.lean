def rAdjust (f : Nat → Int32) (a : Nat → Nat → Int32)  : (Nat → Int32) × (Nat → Nat → Int32) :=
  if (9 : Int32) < (((a 2) (7 : Int32).toNatClampNeg) &&& (15 : Int32)) then if (153 : Int32) < ((a 2) (7 : Int32).toNatClampNeg) then if ((((a 2) (7 : Int32).toNatClampNeg) &&& (15 : Int32)) + (6 : Int32)) ≤ (15 : Int32) then (rSigns (upd (upd f 14 (0 : Int32)) 16 (1 : Int32)) (ua a 2 (upd (a 2) (7 : Int32).toNatClampNeg (((((a 2) (7 : Int32).toNatClampNeg) + (6 : Int32)) + (96 : Int32)) &&& (255 : Int32)))) ((upd (a 2) (7 : Int32).toNatClampNeg (((((a 2) (7 : Int32).toNatClampNeg) + (6 : Int32)) + (96 : Int32)) &&& (255 : Int32))) (7 : Int32).toNatClampNeg), ua a 2 (upd (a 2) (7 : Int32).toNatClampNeg (((((a 2) (7 : Int32).toNatClampNeg) + (6 : Int32)) + (96 : Int32)) &&& (255 : Int32))))
      else (rSigns (upd (upd f 14 (1 : Int32)) 16 (1 : Int32)) (ua a 2 (upd (a 2) (7 : Int32).toNatClampNeg (((((a 2) (7 : Int32).toNatClampNeg) + (6 : Int32)) + (96 : Int32)) &&& (255 : Int32)))) ((upd (a 2) (7 : Int32).toNatClampNeg (((((a 2) (7 : Int32).toNatClampNeg) + (6 : Int32)) + (96 : Int32)) &&& (255 : Int32))) (7 : Int32).toNatClampNeg), ua a 2 (upd (a 2) (7 : Int32).toNatClampNeg (((((a 2) (7 : Int32).toNatClampNeg) + (6 : Int32)) + (96 : Int32)) &&& (255 : Int32))))
    else if f 16 = (1 : Int32) then if ((((a 2) (7 : Int32).toNatClampNeg) &&& (15 : Int32)) + (6 : Int32)) ≤ (15 : Int32) then (rSigns (upd (upd f 14 (0 : Int32)) 16 (1 : Int32)) (ua a 2 (upd (a 2) (7 : Int32).toNatClampNeg (((((a 2) (7 : Int32).toNatClampNeg) + (6 : Int32)) + (96 : Int32)) &&& (255 : Int32)))) ((upd (a 2) (7 : Int32).toNatClampNeg (((((a 2) (7 : Int32).toNatClampNeg) + (6 : Int32)) + (96 : Int32)) &&& (255 : Int32))) (7 : Int32).toNatClampNeg), ua a 2 (upd (a 2) (7 : Int32).toNatClampNeg (((((a 2) (7 : Int32).toNatClampNeg) + (6 : Int32)) + (96 : Int32)) &&& (255 : Int32))))
        else (rSigns (upd (upd f 14 (1 : Int32)) 16 (1 : Int32)) (ua a 2 (upd (a 2) (7 : Int32).toNatClampNeg (((((a 2) (7 : Int32).toNatClampNeg) + (6 : Int32)) + (96 : Int32)) &&& (255 : Int32)))) ((upd (a 2) (7 : Int32).toNatClampNeg (((((a 2) (7 : Int32).toNatClampNeg) + (6 : Int32)) + (96 : Int32)) &&& (255 : Int32))) (7 : Int32).toNatClampNeg), ua a 2 (upd (a 2) (7 : Int32).toNatClampNeg (((((a 2) (7 : Int32).toNatClampNeg) + (6 : Int32)) + (96 : Int32)) &&& (255 : Int32))))
      else if ((((a 2) (7 : Int32).toNatClampNeg) &&& (15 : Int32)) + (6 : Int32)) ≤ (15 : Int32) then (rSigns (upd (upd f 14 (0 : Int32)) 16 (0 : Int32)) (ua a 2 (upd (a 2) (7 : Int32).toNatClampNeg (((((a 2) (7 : Int32).toNatClampNeg) + (6 : Int32)) + (0 : Int32)) &&& (255 : Int32)))) ((upd (a 2) (7 : Int32).toNatClampNeg (((((a 2) (7 : Int32).toNatClampNeg) + (6 : Int32)) + (0 : Int32)) &&& (255 : Int32))) (7 : Int32).toNatClampNeg), ua a 2 (upd (a 2) (7 : Int32).toNatClampNeg (((((a 2) (7 : Int32).toNatClampNeg) + (6 : Int32)) + (0 : Int32)) &&& (255 : Int32))))
        else (rSigns (upd (upd f 14 (1 : Int32)) 16 (0 : Int32)) (ua a 2 (upd (a 2) (7 : Int32).toNatClampNeg (((((a 2) (7 : Int32).toNatClampNeg) + (6 : Int32)) + (0 : Int32)) &&& (255 : Int32)))) ((upd (a 2) (7 : Int32).toNatClampNeg (((((a 2) (7 : Int32).toNatClampNeg) + (6 : Int32)) + (0 : Int32)) &&& (255 : Int32))) (7 : Int32).toNatClampNeg), ua a 2 (upd (a 2) (7 : Int32).toNatClampNeg (((((a 2) (7 : Int32).toNatClampNeg) + (6 : Int32)) + (0 : Int32)) &&& (255 : Int32))))
  else if f 14 = (1 : Int32) then if (153 : Int32) < ((a 2) (7 : Int32).toNatClampNeg) then if ((((a 2) (7 : Int32).toNatClampNeg) &&& (15 : Int32)) + (6 : Int32)) ≤ (15 : Int32) then (rSigns (upd (upd f 14 (0 : Int32)) 16 (1 : Int32)) (ua a 2 (upd (a 2) (7 : Int32).toNatClampNeg (((((a 2) (7 : Int32).toNatClampNeg) + (6 : Int32)) + (96 : Int32)) &&& (255 : Int32)))) ((upd (a 2) (7 : Int32).toNatClampNeg (((((a 2) (7 : Int32).toNatClampNeg) + (6 : Int32)) + (96 : Int32)) &&& (255 : Int32))) (7 : Int32).toNatClampNeg), ua a 2 (upd (a 2) (7 : Int32).toNatClampNeg (((((a 2) (7 : Int32).toNatClampNeg) + (6 : Int32)) + (96 : Int32)) &&& (255 : Int32))))
        else (rSigns (upd (upd f 14 (1 : Int32)) 16 (1 : Int32)) (ua a 2 (upd (a 2) (7 : Int32).toNatClampNeg (((((a 2) (7 : Int32).toNatClampNeg) + (6 : Int32)) + (96 : Int32)) &&& (255 : Int32)))) ((upd (a 2) (7 : Int32).toNatClampNeg (((((a 2) (7 : Int32).toNatClampNeg) + (6 : Int32)) + (96 : Int32)) &&& (255 : Int32))) (7 : Int32).toNatClampNeg), ua a 2 (upd (a 2) (7 : Int32).toNatClampNeg (((((a 2) (7 : Int32).toNatClampNeg) + (6 : Int32)) + (96 : Int32)) &&& (255 : Int32))))
      else if f 16 = (1 : Int32) then if ((((a 2) (7 : Int32).toNatClampNeg) &&& (15 : Int32)) + (6 : Int32)) ≤ (15 : Int32) then (rSigns (upd (upd f 14 (0 : Int32)) 16 (1 : Int32)) (ua a 2 (upd (a 2) (7 : Int32).toNatClampNeg (((((a 2) (7 : Int32).toNatClampNeg) + (6 : Int32)) + (96 : Int32)) &&& (255 : Int32)))) ((upd (a 2) (7 : Int32).toNatClampNeg (((((a 2) (7 : Int32).toNatClampNeg) + (6 : Int32)) + (96 : Int32)) &&& (255 : Int32))) (7 : Int32).toNatClampNeg), ua a 2 (upd (a 2) (7 : Int32).toNatClampNeg (((((a 2) (7 : Int32).toNatClampNeg) + (6 : Int32)) + (96 : Int32)) &&& (255 : Int32))))
          else (rSigns (upd (upd f 14 (1 : Int32)) 16 (1 : Int32)) (ua a 2 (upd (a 2) (7 : Int32).toNatClampNeg (((((a 2) (7 : Int32).toNatClampNeg) + (6 : Int32)) + (96 : Int32)) &&& (255 : Int32)))) ((upd (a 2) (7 : Int32).toNatClampNeg (((((a 2) (7 : Int32).toNatClampNeg) + (6 : Int32)) + (96 : Int32)) &&& (255 : Int32))) (7 : Int32).toNatClampNeg), ua a 2 (upd (a 2) (7 : Int32).toNatClampNeg (((((a 2) (7 : Int32).toNatClampNeg) + (6 : Int32)) + (96 : Int32)) &&& (255 : Int32))))
        else if ((((a 2) (7 : Int32).toNatClampNeg) &&& (15 : Int32)) + (6 : Int32)) ≤ (15 : Int32) then (rSigns (upd (upd f 14 (0 : Int32)) 16 (0 : Int32)) (ua a 2 (upd (a 2) (7 : Int32).toNatClampNeg (((((a 2) (7 : Int32).toNatClampNeg) + (6 : Int32)) + (0 : Int32)) &&& (255 : Int32)))) ((upd (a 2) (7 : Int32).toNatClampNeg (((((a 2) (7 : Int32).toNatClampNeg) + (6 : Int32)) + (0 : Int32)) &&& (255 : Int32))) (7 : Int32).toNatClampNeg), ua a 2 (upd (a 2) (7 : Int32).toNatClampNeg (((((a 2) (7 : Int32).toNatClampNeg) + (6 : Int32)) + (0 : Int32)) &&& (255 : Int32))))
          else (rSigns (upd (upd f 14 (1 : Int32)) 16 (0 : Int32)) (ua a 2 (upd (a 2) (7 : Int32).toNatClampNeg (((((a 2) (7 : Int32).toNatClampNeg) + (6 : Int32)) + (0 : Int32)) &&& (255 : Int32)))) ((upd (a 2) (7 : Int32).toNatClampNeg (((((a 2) (7 : Int32).toNatClampNeg) + (6 : Int32)) + (0 : Int32)) &&& (255 : Int32))) (7 : Int32).toNatClampNeg), ua a 2 (upd (a 2) (7 : Int32).toNatClampNeg (((((a 2) (7 : Int32).toNatClampNeg) + (6 : Int32)) + (0 : Int32)) &&& (255 : Int32))))
    else if (153 : Int32) < ((a 2) (7 : Int32).toNatClampNeg) then if ((((a 2) (7 : Int32).toNatClampNeg) &&& (15 : Int32)) + (0 : Int32)) ≤ (15 : Int32) then (rSigns (upd (upd f 14 (0 : Int32)) 16 (1 : Int32)) (ua a 2 (upd (a 2) (7 : Int32).toNatClampNeg (((((a 2) (7 : Int32).toNatClampNeg) + (0 : Int32)) + (96 : Int32)) &&& (255 : Int32)))) ((upd (a 2) (7 : Int32).toNatClampNeg (((((a 2) (7 : Int32).toNatClampNeg) + (0 : Int32)) + (96 : Int32)) &&& (255 : Int32))) (7 : Int32).toNatClampNeg), ua a 2 (upd (a 2) (7 : Int32).toNatClampNeg (((((a 2) (7 : Int32).toNatClampNeg) + (0 : Int32)) + (96 : Int32)) &&& (255 : Int32))))
        else (rSigns (upd (upd f 14 (1 : Int32)) 16 (1 : Int32)) (ua a 2 (upd (a 2) (7 : Int32).toNatClampNeg (((((a 2) (7 : Int32).toNatClampNeg) + (0 : Int32)) + (96 : Int32)) &&& (255 : Int32)))) ((upd (a 2) (7 : Int32).toNatClampNeg (((((a 2) (7 : Int32).toNatClampNeg) + (0 : Int32)) + (96 : Int32)) &&& (255 : Int32))) (7 : Int32).toNatClampNeg), ua a 2 (upd (a 2) (7 : Int32).toNatClampNeg (((((a 2) (7 : Int32).toNatClampNeg) + (0 : Int32)) + (96 : Int32)) &&& (255 : Int32))))
      else if f 16 = (1 : Int32) then if ((((a 2) (7 : Int32).toNatClampNeg) &&& (15 : Int32)) + (0 : Int32)) ≤ (15 : Int32) then (rSigns (upd (upd f 14 (0 : Int32)) 16 (1 : Int32)) (ua a 2 (upd (a 2) (7 : Int32).toNatClampNeg (((((a 2) (7 : Int32).toNatClampNeg) + (0 : Int32)) + (96 : Int32)) &&& (255 : Int32)))) ((upd (a 2) (7 : Int32).toNatClampNeg (((((a 2) (7 : Int32).toNatClampNeg) + (0 : Int32)) + (96 : Int32)) &&& (255 : Int32))) (7 : Int32).toNatClampNeg), ua a 2 (upd (a 2) (7 : Int32).toNatClampNeg (((((a 2) (7 : Int32).toNatClampNeg) + (0 : Int32)) + (96 : Int32)) &&& (255 : Int32))))
          else (rSigns (upd (upd f 14 (1 : Int32)) 16 (1 : Int32)) (ua a 2 (upd (a 2) (7 : Int32).toNatClampNeg (((((a 2) (7 : Int32).toNatClampNeg) + (0 : Int32)) + (96 : Int32)) &&& (255 : Int32)))) ((upd (a 2) (7 : Int32).toNatClampNeg (((((a 2) (7 : Int32).toNatClampNeg) + (0 : Int32)) + (96 : Int32)) &&& (255 : Int32))) (7 : Int32).toNatClampNeg), ua a 2 (upd (a 2) (7 : Int32).toNatClampNeg (((((a 2) (7 : Int32).toNatClampNeg) + (0 : Int32)) + (96 : Int32)) &&& (255 : Int32))))
        else if ((((a 2) (7 : Int32).toNatClampNeg) &&& (15 : Int32)) + (0 : Int32)) ≤ (15 : Int32) then (rSigns (upd (upd f 14 (0 : Int32)) 16 (0 : Int32)) (ua a 2 (upd (a 2) (7 : Int32).toNatClampNeg (((((a 2) (7 : Int32).toNatClampNeg) + (0 : Int32)) + (0 : Int32)) &&& (255 : Int32)))) ((upd (a 2) (7 : Int32).toNatClampNeg (((((a 2) (7 : Int32).toNatClampNeg) + (0 : Int32)) + (0 : Int32)) &&& (255 : Int32))) (7 : Int32).toNatClampNeg), ua a 2 (upd (a 2) (7 : Int32).toNatClampNeg (((((a 2) (7 : Int32).toNatClampNeg) + (0 : Int32)) + (0 : Int32)) &&& (255 : Int32))))
          else (rSigns (upd (upd f 14 (1 : Int32)) 16 (0 : Int32)) (ua a 2 (upd (a 2) (7 : Int32).toNatClampNeg (((((a 2) (7 : Int32).toNatClampNeg) + (0 : Int32)) + (0 : Int32)) &&& (255 : Int32)))) ((upd (a 2) (7 : Int32).toNatClampNeg (((((a 2) (7 : Int32).toNatClampNeg) + (0 : Int32)) + (0 : Int32)) &&& (255 : Int32))) (7 : Int32).toNatClampNeg), ua a 2 (upd (a 2) (7 : Int32).toNatClampNeg (((((a 2) (7 : Int32).toNatClampNeg) + (0 : Int32)) + (0 : Int32)) &&& (255 : Int32))))
set_option maxHeartbeats 4000000 in
set_option maxRecDepth 100000 in
theorem kX5_adjust (l : Launch) (D : va_G) (cI : ClassId) (o : Nat → Nat) (f : Nat → Int32) (a : Nat → Nat → Int32)  : KC l yX5_adjust wsX5_adjust 1 [.ref (o 20)] D cI (wR cI o f a) (wR cI o ((rAdjust f a).1) ((rAdjust f a).2)) none := by
  refine KC.of (cc := cX5_adjust) (maxL := 4) (by decide) rfl (Nat.le_of_ble_eq_true rfl) ?_
  intro p e s m below meth c A hx hb hr hts hown hlocks hml hK hP hD hS hA ls hl
  have hl : lv_has ls 4 [(0, .ref (o 20))] := hl
  have hown : s.vm.findClass RX5 = some m.cls := hown
  have hi5 : ∀ w ∈ u_ws RX5 TX5 24, w ∈ wsX5_adjust := fun w h => List.mem_cons_of_mem _ (List.mem_append_right _ h)
  refine lv_aload_n hx hb dX5_adjust_0 rfl (lv_at hl 0 rfl) ?_
  refine va_get (ci := 5) (v := .ref (o 23)) (C := RX5) (T := TX5) (N := 24) hx hb hts hi5 hown hK hP 0 rfl rfl 3 (by decide) (hts (.fieldLink RX5 16 "InvaderBoardModel" "reg" "[I") (List.mem_cons_of_mem _ (List.mem_append_left _ (List.mem_of_getElem? (i := 0) rfl)))) (fun _ h9 => h9) rfl dX5_adjust_1 ?_
  refine lv_bipush (v := 7) hx hb dX5_adjust_4 (by decide) ?_
  refine va_iald (f := a 2) hx hb hK hP 3 0 rfl rfl (by unfold vp_in; decide) dX5_adjust_6 ?_
  refine lv_istore_n (lv' := [(1, .int _), (0, .ref _)]) hx hb dX5_adjust_7 rfl hl (by decide) rfl (fun ls hl => ?_)
  refine lv_iload_n hx hb dX5_adjust_8 rfl (lv_at hl 0 rfl) ?_
  refine lv_bipush (v := 15) hx hb dX5_adjust_9 (by decide) ?_
  refine lv_iand hx hb dX5_adjust_11 ?_
  refine lv_bipush (v := 9) hx hb dX5_adjust_12 (by decide) ?_
  refine lv_icmp_gt (tgt := 25) hx hb dX5_adjust_14 (by decide) (fun c_1 => ?_) (fun c_1 => ?_)
  · refine lv_bipush (v := 6) hx hb dX5_adjust_25 (by decide) ?_
    refine lv_goto (tgt := 31) hx hb dX5_adjust_27 (by decide) ?_
    refine lv_istore_n (lv' := [(2, .int _), (1, .int _), (0, .ref _)]) hx hb dX5_adjust_31 rfl hl (by decide) rfl (fun ls hl => ?_)
    refine lv_iload_n hx hb dX5_adjust_32 rfl (lv_at hl 1 rfl) ?_
    refine lv_sipush (v := 153) hx hb dX5_adjust_33 (by decide) ?_
    refine lv_icmp_gt (tgt := 47) hx hb dX5_adjust_36 (by decide) (fun c_2 => ?_) (fun c_2 => ?_)
    · refine lv_iconst (v := 1) hx hb dX5_adjust_47 (by decide) ?_
      refine lv_goto (tgt := 52) hx hb dX5_adjust_48 (by decide) ?_
      refine lv_istore_n (lv' := [(3, .int _), (2, .int _), (1, .int _), (0, .ref _)]) hx hb dX5_adjust_52 rfl hl (by decide) rfl (fun ls hl => ?_)
      refine lv_aload_n hx hb dX5_adjust_53 rfl (lv_at hl 3 rfl) ?_
      refine lv_iload_n hx hb dX5_adjust_54 rfl (lv_at hl 2 rfl) ?_
      refine lv_bipush (v := 15) hx hb dX5_adjust_55 (by decide) ?_
      refine lv_iand hx hb dX5_adjust_57 ?_
      refine lv_iload_n hx hb dX5_adjust_58 rfl (lv_at hl 1 rfl) ?_
      refine lv_iadd hx hb dX5_adjust_59 ?_
      refine lv_bipush (v := 15) hx hb dX5_adjust_60 (by decide) ?_
      refine lv_icmp_le (tgt := 69) hx hb dX5_adjust_62 (by decide) (fun c_3 => ?_) (fun c_3 => ?_)
      · refine lv_iconst (v := 0) hx hb dX5_adjust_69 (by decide) ?_
        refine pu_R_f14 (v := (0 : Int32)) hx hb hts hi5 hown hK hP hD hS (hts (.fieldLink RX5 63 "InvaderBoardModel" "half" "I") (List.mem_cons_of_mem _ (List.mem_append_left _ (List.mem_of_getElem? (i := 1) rfl)))) dX5_adjust_70 (fun H locs hP hD hS => ?_)
        refine lv_aload_n hx hb dX5_adjust_73 rfl (lv_at hl 3 rfl) ?_
        refine lv_iload_n hx hb dX5_adjust_74 rfl (lv_at hl 0 rfl) ?_
        refine lv_if_eq (tgt := 82) hx hb dX5_adjust_75 (by decide) (fun c_4 => ?_) (fun c_4 => ?_)
        · exact absurd c_4 (by decide)
        · refine lv_iconst (v := 1) hx hb dX5_adjust_78 (by decide) ?_
          refine lv_goto (tgt := 83) hx hb dX5_adjust_79 (by decide) ?_
          refine pu_R_f16 (v := (1 : Int32)) hx hb hts hi5 hown hK hP hD hS (hts (.fieldLink RX5 66 "InvaderBoardModel" "carry" "I") (List.mem_cons_of_mem _ (List.mem_append_left _ (List.mem_of_getElem? (i := 2) rfl)))) dX5_adjust_83 (fun H locs hP hD hS => ?_)
          refine lv_aload_n hx hb dX5_adjust_86 rfl (lv_at hl 3 rfl) ?_
          refine va_get (ci := 5) (v := .ref (o 23)) (C := RX5) (T := TX5) (N := 24) hx hb hts hi5 hown hK hP 0 rfl rfl 3 (by decide) (hts (.fieldLink RX5 16 "InvaderBoardModel" "reg" "[I") (List.mem_cons_of_mem _ (List.mem_append_left _ (List.mem_of_getElem? (i := 0) rfl)))) (fun _ h9 => h9) rfl dX5_adjust_87 ?_
          refine lv_bipush (v := 7) hx hb dX5_adjust_90 (by decide) ?_
          refine lv_iload_n hx hb dX5_adjust_92 rfl (lv_at hl 2 rfl) ?_
          refine lv_iload_n hx hb dX5_adjust_93 rfl (lv_at hl 1 rfl) ?_
          refine lv_iadd hx hb dX5_adjust_94 ?_
          refine lv_iload_n hx hb dX5_adjust_95 rfl (lv_at hl 0 rfl) ?_
          refine lv_if_eq (tgt := 104) hx hb dX5_adjust_96 (by decide) (fun c_5 => ?_) (fun c_5 => ?_)
          · exact absurd c_5 (by decide)
          · refine lv_bipush (v := 96) hx hb dX5_adjust_99 (by decide) ?_
            refine lv_goto (tgt := 105) hx hb dX5_adjust_101 (by decide) ?_
            refine lv_iadd hx hb dX5_adjust_105 ?_
            refine lv_sipush (v := 255) hx hb dX5_adjust_106 (by decide) ?_
            refine lv_iand hx hb dX5_adjust_109 ?_
            refine pu_R_a2 hx hb hK hP hD hS (by unfold vp_in; decide) dX5_adjust_110 (fun H locs hP hD hS => ?_)
            refine lv_aload_n hx hb dX5_adjust_111 rfl (lv_at hl 3 rfl) ?_
            refine lv_aload_n hx hb dX5_adjust_112 rfl (lv_at hl 3 rfl) ?_
            refine va_get (ci := 5) (v := .ref (o 23)) (C := RX5) (T := TX5) (N := 24) hx hb hts hi5 hown hK hP 0 rfl rfl 3 (by decide) (hts (.fieldLink RX5 16 "InvaderBoardModel" "reg" "[I") (List.mem_cons_of_mem _ (List.mem_append_left _ (List.mem_of_getElem? (i := 0) rfl)))) (fun _ h9 => h9) rfl dX5_adjust_113 ?_
            refine lv_bipush (v := 7) hx hb dX5_adjust_116 (by decide) ?_
            refine va_iald (f := upd (a 2) (7 : Int32).toNatClampNeg (((((a 2) (7 : Int32).toNatClampNeg) + (6 : Int32)) + (96 : Int32)) &&& (255 : Int32))) hx hb hK hP 3 0 rfl rfl (by unfold vp_in; decide) dX5_adjust_118 ?_
            refine KC.callv (ci := 5) (rest := []) (wt := wR cI o (rSigns (upd (upd f 14 (0 : Int32)) 16 (1 : Int32)) (ua a 2 (upd (a 2) (7 : Int32).toNatClampNeg (((((a 2) (7 : Int32).toNatClampNeg) + (6 : Int32)) + (96 : Int32)) &&& (255 : Int32)))) ((upd (a 2) (7 : Int32).toNatClampNeg (((((a 2) (7 : Int32).toNatClampNeg) + (6 : Int32)) + (96 : Int32)) &&& (255 : Int32))) (7 : Int32).toNatClampNeg)) (ua a 2 (upd (a 2) (7 : Int32).toNatClampNeg (((((a 2) (7 : Int32).toNatClampNeg) + (6 : Int32)) + (96 : Int32)) &&& (255 : Int32))))) (kX5_signs l D cI o (upd (upd f 14 (0 : Int32)) 16 (1 : Int32)) (ua a 2 (upd (a 2) (7 : Int32).toNatClampNeg (((((a 2) (7 : Int32).toNatClampNeg) + (6 : Int32)) + (96 : Int32)) &&& (255 : Int32)))) ((upd (a 2) (7 : Int32).toNatClampNeg (((((a 2) (7 : Int32).toNatClampNeg) + (6 : Int32)) + (96 : Int32)) &&& (255 : Int32))) (7 : Int32).toNatClampNeg)) (cwV 1 hts gX5_adjust_X5_signs rfl rfl rfl (by decide +kernel) ⟨Nat.le_of_ble_eq_true rfl, Nat.le_of_ble_eq_true rfl⟩) ⟨hx, hb, hml, hown, hts⟩ hK hP hD hS hA rfl rfl rfl [0, 1, 2, 3, 4, 5, 6] [] [0, 1, 2, 3, 4, 5, 6] (by decide) rfl (wr := []) rfl (by decide) (by decide) (by decide) rfl rfl hl.1 rfl (Nat.le_of_ble_eq_true rfl) dX5_adjust_119 ⟨Nat.zero_le _, Nat.zero_le _⟩ (fun H locs hP hD hS => ?_)
            have hF : rAdjust f a = (rSigns (upd (upd f 14 (0 : Int32)) 16 (1 : Int32)) (ua a 2 (upd (a 2) (7 : Int32).toNatClampNeg (((((a 2) (7 : Int32).toNatClampNeg) + (6 : Int32)) + (96 : Int32)) &&& (255 : Int32)))) ((upd (a 2) (7 : Int32).toNatClampNeg (((((a 2) (7 : Int32).toNatClampNeg) + (6 : Int32)) + (96 : Int32)) &&& (255 : Int32))) (7 : Int32).toNatClampNeg), ua a 2 (upd (a 2) (7 : Int32).toNatClampNeg (((((a 2) (7 : Int32).toNatClampNeg) + (6 : Int32)) + (96 : Int32)) &&& (255 : Int32)))) := by
              unfold rAdjust
              refine (if_pos c_1).trans ?_
              refine (if_pos c_2).trans ?_
              refine (if_pos c_3).trans ?_
              rfl
            rw [hF]
            exact KC.retv hx hb hr hlocks hK hP hD hS dX5_adjust_122
      · refine lv_iconst (v := 1) hx hb dX5_adjust_65 (by decide) ?_
        refine lv_goto (tgt := 70) hx hb dX5_adjust_66 (by decide) ?_
        refine pu_R_f14 (v := (1 : Int32)) hx hb hts hi5 hown hK hP hD hS (hts (.fieldLink RX5 63 "InvaderBoardModel" "half" "I") (List.mem_cons_of_mem _ (List.mem_append_left _ (List.mem_of_getElem? (i := 1) rfl)))) dX5_adjust_70 (fun H locs hP hD hS => ?_)
        refine lv_aload_n hx hb dX5_adjust_73 rfl (lv_at hl 3 rfl) ?_
        refine lv_iload_n hx hb dX5_adjust_74 rfl (lv_at hl 0 rfl) ?_
        refine lv_if_eq (tgt := 82) hx hb dX5_adjust_75 (by decide) (fun c_6 => ?_) (fun c_6 => ?_)
        · exact absurd c_6 (by decide)
        · refine lv_iconst (v := 1) hx hb dX5_adjust_78 (by decide) ?_
          refine lv_goto (tgt := 83) hx hb dX5_adjust_79 (by decide) ?_
          refine pu_R_f16 (v := (1 : Int32)) hx hb hts hi5 hown hK hP hD hS (hts (.fieldLink RX5 66 "InvaderBoardModel" "carry" "I") (List.mem_cons_of_mem _ (List.mem_append_left _ (List.mem_of_getElem? (i := 2) rfl)))) dX5_adjust_83 (fun H locs hP hD hS => ?_)
          refine lv_aload_n hx hb dX5_adjust_86 rfl (lv_at hl 3 rfl) ?_
          refine va_get (ci := 5) (v := .ref (o 23)) (C := RX5) (T := TX5) (N := 24) hx hb hts hi5 hown hK hP 0 rfl rfl 3 (by decide) (hts (.fieldLink RX5 16 "InvaderBoardModel" "reg" "[I") (List.mem_cons_of_mem _ (List.mem_append_left _ (List.mem_of_getElem? (i := 0) rfl)))) (fun _ h9 => h9) rfl dX5_adjust_87 ?_
          refine lv_bipush (v := 7) hx hb dX5_adjust_90 (by decide) ?_
          refine lv_iload_n hx hb dX5_adjust_92 rfl (lv_at hl 2 rfl) ?_
          refine lv_iload_n hx hb dX5_adjust_93 rfl (lv_at hl 1 rfl) ?_
          refine lv_iadd hx hb dX5_adjust_94 ?_
          refine lv_iload_n hx hb dX5_adjust_95 rfl (lv_at hl 0 rfl) ?_
          refine lv_if_eq (tgt := 104) hx hb dX5_adjust_96 (by decide) (fun c_7 => ?_) (fun c_7 => ?_)
          · exact absurd c_7 (by decide)
          · refine lv_bipush (v := 96) hx hb dX5_adjust_99 (by decide) ?_
            refine lv_goto (tgt := 105) hx hb dX5_adjust_101 (by decide) ?_
            refine lv_iadd hx hb dX5_adjust_105 ?_
            refine lv_sipush (v := 255) hx hb dX5_adjust_106 (by decide) ?_
            refine lv_iand hx hb dX5_adjust_109 ?_
            refine pu_R_a2 hx hb hK hP hD hS (by unfold vp_in; decide) dX5_adjust_110 (fun H locs hP hD hS => ?_)
            refine lv_aload_n hx hb dX5_adjust_111 rfl (lv_at hl 3 rfl) ?_
            refine lv_aload_n hx hb dX5_adjust_112 rfl (lv_at hl 3 rfl) ?_
            refine va_get (ci := 5) (v := .ref (o 23)) (C := RX5) (T := TX5) (N := 24) hx hb hts hi5 hown hK hP 0 rfl rfl 3 (by decide) (hts (.fieldLink RX5 16 "InvaderBoardModel" "reg" "[I") (List.mem_cons_of_mem _ (List.mem_append_left _ (List.mem_of_getElem? (i := 0) rfl)))) (fun _ h9 => h9) rfl dX5_adjust_113 ?_
            refine lv_bipush (v := 7) hx hb dX5_adjust_116 (by decide) ?_
            refine va_iald (f := upd (a 2) (7 : Int32).toNatClampNeg (((((a 2) (7 : Int32).toNatClampNeg) + (6 : Int32)) + (96 : Int32)) &&& (255 : Int32))) hx hb hK hP 3 0 rfl rfl (by unfold vp_in; decide) dX5_adjust_118 ?_
            refine KC.callv (ci := 5) (rest := []) (wt := wR cI o (rSigns (upd (upd f 14 (1 : Int32)) 16 (1 : Int32)) (ua a 2 (upd (a 2) (7 : Int32).toNatClampNeg (((((a 2) (7 : Int32).toNatClampNeg) + (6 : Int32)) + (96 : Int32)) &&& (255 : Int32)))) ((upd (a 2) (7 : Int32).toNatClampNeg (((((a 2) (7 : Int32).toNatClampNeg) + (6 : Int32)) + (96 : Int32)) &&& (255 : Int32))) (7 : Int32).toNatClampNeg)) (ua a 2 (upd (a 2) (7 : Int32).toNatClampNeg (((((a 2) (7 : Int32).toNatClampNeg) + (6 : Int32)) + (96 : Int32)) &&& (255 : Int32))))) (kX5_signs l D cI o (upd (upd f 14 (1 : Int32)) 16 (1 : Int32)) (ua a 2 (upd (a 2) (7 : Int32).toNatClampNeg (((((a 2) (7 : Int32).toNatClampNeg) + (6 : Int32)) + (96 : Int32)) &&& (255 : Int32)))) ((upd (a 2) (7 : Int32).toNatClampNeg (((((a 2) (7 : Int32).toNatClampNeg) + (6 : Int32)) + (96 : Int32)) &&& (255 : Int32))) (7 : Int32).toNatClampNeg)) (cwV 1 hts gX5_adjust_X5_signs rfl rfl rfl (by decide +kernel) ⟨Nat.le_of_ble_eq_true rfl, Nat.le_of_ble_eq_true rfl⟩) ⟨hx, hb, hml, hown, hts⟩ hK hP hD hS hA rfl rfl rfl [0, 1, 2, 3, 4, 5, 6] [] [0, 1, 2, 3, 4, 5, 6] (by decide) rfl (wr := []) rfl (by decide) (by decide) (by decide) rfl rfl hl.1 rfl (Nat.le_of_ble_eq_true rfl) dX5_adjust_119 ⟨Nat.zero_le _, Nat.zero_le _⟩ (fun H locs hP hD hS => ?_)
            have hF : rAdjust f a = (rSigns (upd (upd f 14 (1 : Int32)) 16 (1 : Int32)) (ua a 2 (upd (a 2) (7 : Int32).toNatClampNeg (((((a 2) (7 : Int32).toNatClampNeg) + (6 : Int32)) + (96 : Int32)) &&& (255 : Int32)))) ((upd (a 2) (7 : Int32).toNatClampNeg (((((a 2) (7 : Int32).toNatClampNeg) + (6 : Int32)) + (96 : Int32)) &&& (255 : Int32))) (7 : Int32).toNatClampNeg), ua a 2 (upd (a 2) (7 : Int32).toNatClampNeg (((((a 2) (7 : Int32).toNatClampNeg) + (6 : Int32)) + (96 : Int32)) &&& (255 : Int32)))) := by
              unfold rAdjust
              refine (if_pos c_1).trans ?_
              refine (if_pos c_2).trans ?_
              refine (if_neg c_3).trans ?_
              rfl
            rw [hF]
            exact KC.retv hx hb hr hlocks hK hP hD hS dX5_adjust_122
    · refine lv_aload_n hx hb dX5_adjust_39 rfl (lv_at hl 2 rfl) ?_
      refine va_get (ci := 5) (v := .int (f 16)) (C := RX5) (T := TX5) (N := 24) hx hb hts hi5 hown hK hP 0 rfl rfl 10 (by decide) (hts (.fieldLink RX5 66 "InvaderBoardModel" "carry" "I") (List.mem_cons_of_mem _ (List.mem_append_left _ (List.mem_of_getElem? (i := 2) rfl)))) (fun _ h9 => h9) rfl dX5_adjust_40 ?_
      refine lv_iconst (v := 1) hx hb dX5_adjust_43 (by decide) ?_
      refine lv_icmp_ne (tgt := 51) hx hb dX5_adjust_44 (by decide) (fun c_8 => ?_) (fun c_8 => ?_)
      · refine lv_iconst (v := 0) hx hb dX5_adjust_51 (by decide) ?_
        refine lv_istore_n (lv' := [(3, .int _), (2, .int _), (1, .int _), (0, .ref _)]) hx hb dX5_adjust_52 rfl hl (by decide) rfl (fun ls hl => ?_)
        refine lv_aload_n hx hb dX5_adjust_53 rfl (lv_at hl 3 rfl) ?_
        refine lv_iload_n hx hb dX5_adjust_54 rfl (lv_at hl 2 rfl) ?_
        refine lv_bipush (v := 15) hx hb dX5_adjust_55 (by decide) ?_
        refine lv_iand hx hb dX5_adjust_57 ?_
        refine lv_iload_n hx hb dX5_adjust_58 rfl (lv_at hl 1 rfl) ?_
        refine lv_iadd hx hb dX5_adjust_59 ?_
        refine lv_bipush (v := 15) hx hb dX5_adjust_60 (by decide) ?_
        refine lv_icmp_le (tgt := 69) hx hb dX5_adjust_62 (by decide) (fun c_9 => ?_) (fun c_9 => ?_)
        · refine lv_iconst (v := 0) hx hb dX5_adjust_69 (by decide) ?_
          refine pu_R_f14 (v := (0 : Int32)) hx hb hts hi5 hown hK hP hD hS (hts (.fieldLink RX5 63 "InvaderBoardModel" "half" "I") (List.mem_cons_of_mem _ (List.mem_append_left _ (List.mem_of_getElem? (i := 1) rfl)))) dX5_adjust_70 (fun H locs hP hD hS => ?_)
          refine lv_aload_n hx hb dX5_adjust_73 rfl (lv_at hl 3 rfl) ?_
          refine lv_iload_n hx hb dX5_adjust_74 rfl (lv_at hl 0 rfl) ?_
          refine lv_if_eq (tgt := 82) hx hb dX5_adjust_75 (by decide) (fun c_10 => ?_) (fun c_10 => ?_)
          · refine lv_iconst (v := 0) hx hb dX5_adjust_82 (by decide) ?_
            refine pu_R_f16 (v := (0 : Int32)) hx hb hts hi5 hown hK hP hD hS (hts (.fieldLink RX5 66 "InvaderBoardModel" "carry" "I") (List.mem_cons_of_mem _ (List.mem_append_left _ (List.mem_of_getElem? (i := 2) rfl)))) dX5_adjust_83 (fun H locs hP hD hS => ?_)
            refine lv_aload_n hx hb dX5_adjust_86 rfl (lv_at hl 3 rfl) ?_
            refine va_get (ci := 5) (v := .ref (o 23)) (C := RX5) (T := TX5) (N := 24) hx hb hts hi5 hown hK hP 0 rfl rfl 3 (by decide) (hts (.fieldLink RX5 16 "InvaderBoardModel" "reg" "[I") (List.mem_cons_of_mem _ (List.mem_append_left _ (List.mem_of_getElem? (i := 0) rfl)))) (fun _ h9 => h9) rfl dX5_adjust_87 ?_
            refine lv_bipush (v := 7) hx hb dX5_adjust_90 (by decide) ?_
            refine lv_iload_n hx hb dX5_adjust_92 rfl (lv_at hl 2 rfl) ?_
            refine lv_iload_n hx hb dX5_adjust_93 rfl (lv_at hl 1 rfl) ?_
            refine lv_iadd hx hb dX5_adjust_94 ?_
            refine lv_iload_n hx hb dX5_adjust_95 rfl (lv_at hl 0 rfl) ?_
            refine lv_if_eq (tgt := 104) hx hb dX5_adjust_96 (by decide) (fun c_11 => ?_) (fun c_11 => ?_)
            · refine lv_iconst (v := 0) hx hb dX5_adjust_104 (by decide) ?_
              refine lv_iadd hx hb dX5_adjust_105 ?_
              refine lv_sipush (v := 255) hx hb dX5_adjust_106 (by decide) ?_
              refine lv_iand hx hb dX5_adjust_109 ?_
              refine pu_R_a2 hx hb hK hP hD hS (by unfold vp_in; decide) dX5_adjust_110 (fun H locs hP hD hS => ?_)
              refine lv_aload_n hx hb dX5_adjust_111 rfl (lv_at hl 3 rfl) ?_
              refine lv_aload_n hx hb dX5_adjust_112 rfl (lv_at hl 3 rfl) ?_
              refine va_get (ci := 5) (v := .ref (o 23)) (C := RX5) (T := TX5) (N := 24) hx hb hts hi5 hown hK hP 0 rfl rfl 3 (by decide) (hts (.fieldLink RX5 16 "InvaderBoardModel" "reg" "[I") (List.mem_cons_of_mem _ (List.mem_append_left _ (List.mem_of_getElem? (i := 0) rfl)))) (fun _ h9 => h9) rfl dX5_adjust_113 ?_
              refine lv_bipush (v := 7) hx hb dX5_adjust_116 (by decide) ?_
              refine va_iald (f := upd (a 2) (7 : Int32).toNatClampNeg (((((a 2) (7 : Int32).toNatClampNeg) + (6 : Int32)) + (0 : Int32)) &&& (255 : Int32))) hx hb hK hP 3 0 rfl rfl (by unfold vp_in; decide) dX5_adjust_118 ?_
              refine KC.callv (ci := 5) (rest := []) (wt := wR cI o (rSigns (upd (upd f 14 (0 : Int32)) 16 (0 : Int32)) (ua a 2 (upd (a 2) (7 : Int32).toNatClampNeg (((((a 2) (7 : Int32).toNatClampNeg) + (6 : Int32)) + (0 : Int32)) &&& (255 : Int32)))) ((upd (a 2) (7 : Int32).toNatClampNeg (((((a 2) (7 : Int32).toNatClampNeg) + (6 : Int32)) + (0 : Int32)) &&& (255 : Int32))) (7 : Int32).toNatClampNeg)) (ua a 2 (upd (a 2) (7 : Int32).toNatClampNeg (((((a 2) (7 : Int32).toNatClampNeg) + (6 : Int32)) + (0 : Int32)) &&& (255 : Int32))))) (kX5_signs l D cI o (upd (upd f 14 (0 : Int32)) 16 (0 : Int32)) (ua a 2 (upd (a 2) (7 : Int32).toNatClampNeg (((((a 2) (7 : Int32).toNatClampNeg) + (6 : Int32)) + (0 : Int32)) &&& (255 : Int32)))) ((upd (a 2) (7 : Int32).toNatClampNeg (((((a 2) (7 : Int32).toNatClampNeg) + (6 : Int32)) + (0 : Int32)) &&& (255 : Int32))) (7 : Int32).toNatClampNeg)) (cwV 1 hts gX5_adjust_X5_signs rfl rfl rfl (by decide +kernel) ⟨Nat.le_of_ble_eq_true rfl, Nat.le_of_ble_eq_true rfl⟩) ⟨hx, hb, hml, hown, hts⟩ hK hP hD hS hA rfl rfl rfl [0, 1, 2, 3, 4, 5, 6] [] [0, 1, 2, 3, 4, 5, 6] (by decide) rfl (wr := []) rfl (by decide) (by decide) (by decide) rfl rfl hl.1 rfl (Nat.le_of_ble_eq_true rfl) dX5_adjust_119 ⟨Nat.zero_le _, Nat.zero_le _⟩ (fun H locs hP hD hS => ?_)
              have hF : rAdjust f a = (rSigns (upd (upd f 14 (0 : Int32)) 16 (0 : Int32)) (ua a 2 (upd (a 2) (7 : Int32).toNatClampNeg (((((a 2) (7 : Int32).toNatClampNeg) + (6 : Int32)) + (0 : Int32)) &&& (255 : Int32)))) ((upd (a 2) (7 : Int32).toNatClampNeg (((((a 2) (7 : Int32).toNatClampNeg) + (6 : Int32)) + (0 : Int32)) &&& (255 : Int32))) (7 : Int32).toNatClampNeg), ua a 2 (upd (a 2) (7 : Int32).toNatClampNeg (((((a 2) (7 : Int32).toNatClampNeg) + (6 : Int32)) + (0 : Int32)) &&& (255 : Int32)))) := by
                unfold rAdjust
                refine (if_pos c_1).trans ?_
                refine (if_neg c_2).trans ?_
                refine (if_neg c_8).trans ?_
                refine (if_pos c_9).trans ?_
                rfl
              rw [hF]
              exact KC.retv hx hb hr hlocks hK hP hD hS dX5_adjust_122
            · exact absurd c_11 (by decide)
          · exact absurd c_10 (by decide)
        · refine lv_iconst (v := 1) hx hb dX5_adjust_65 (by decide) ?_
          refine lv_goto (tgt := 70) hx hb dX5_adjust_66 (by decide) ?_
          refine pu_R_f14 (v := (1 : Int32)) hx hb hts hi5 hown hK hP hD hS (hts (.fieldLink RX5 63 "InvaderBoardModel" "half" "I") (List.mem_cons_of_mem _ (List.mem_append_left _ (List.mem_of_getElem? (i := 1) rfl)))) dX5_adjust_70 (fun H locs hP hD hS => ?_)
          refine lv_aload_n hx hb dX5_adjust_73 rfl (lv_at hl 3 rfl) ?_
          refine lv_iload_n hx hb dX5_adjust_74 rfl (lv_at hl 0 rfl) ?_
          refine lv_if_eq (tgt := 82) hx hb dX5_adjust_75 (by decide) (fun c_12 => ?_) (fun c_12 => ?_)
          · refine lv_iconst (v := 0) hx hb dX5_adjust_82 (by decide) ?_
            refine pu_R_f16 (v := (0 : Int32)) hx hb hts hi5 hown hK hP hD hS (hts (.fieldLink RX5 66 "InvaderBoardModel" "carry" "I") (List.mem_cons_of_mem _ (List.mem_append_left _ (List.mem_of_getElem? (i := 2) rfl)))) dX5_adjust_83 (fun H locs hP hD hS => ?_)
            refine lv_aload_n hx hb dX5_adjust_86 rfl (lv_at hl 3 rfl) ?_
            refine va_get (ci := 5) (v := .ref (o 23)) (C := RX5) (T := TX5) (N := 24) hx hb hts hi5 hown hK hP 0 rfl rfl 3 (by decide) (hts (.fieldLink RX5 16 "InvaderBoardModel" "reg" "[I") (List.mem_cons_of_mem _ (List.mem_append_left _ (List.mem_of_getElem? (i := 0) rfl)))) (fun _ h9 => h9) rfl dX5_adjust_87 ?_
            refine lv_bipush (v := 7) hx hb dX5_adjust_90 (by decide) ?_
            refine lv_iload_n hx hb dX5_adjust_92 rfl (lv_at hl 2 rfl) ?_
            refine lv_iload_n hx hb dX5_adjust_93 rfl (lv_at hl 1 rfl) ?_
            refine lv_iadd hx hb dX5_adjust_94 ?_
            refine lv_iload_n hx hb dX5_adjust_95 rfl (lv_at hl 0 rfl) ?_
            refine lv_if_eq (tgt := 104) hx hb dX5_adjust_96 (by decide) (fun c_13 => ?_) (fun c_13 => ?_)
            · refine lv_iconst (v := 0) hx hb dX5_adjust_104 (by decide) ?_
              refine lv_iadd hx hb dX5_adjust_105 ?_
              refine lv_sipush (v := 255) hx hb dX5_adjust_106 (by decide) ?_
              refine lv_iand hx hb dX5_adjust_109 ?_
              refine pu_R_a2 hx hb hK hP hD hS (by unfold vp_in; decide) dX5_adjust_110 (fun H locs hP hD hS => ?_)
              refine lv_aload_n hx hb dX5_adjust_111 rfl (lv_at hl 3 rfl) ?_
              refine lv_aload_n hx hb dX5_adjust_112 rfl (lv_at hl 3 rfl) ?_
              refine va_get (ci := 5) (v := .ref (o 23)) (C := RX5) (T := TX5) (N := 24) hx hb hts hi5 hown hK hP 0 rfl rfl 3 (by decide) (hts (.fieldLink RX5 16 "InvaderBoardModel" "reg" "[I") (List.mem_cons_of_mem _ (List.mem_append_left _ (List.mem_of_getElem? (i := 0) rfl)))) (fun _ h9 => h9) rfl dX5_adjust_113 ?_
              refine lv_bipush (v := 7) hx hb dX5_adjust_116 (by decide) ?_
              refine va_iald (f := upd (a 2) (7 : Int32).toNatClampNeg (((((a 2) (7 : Int32).toNatClampNeg) + (6 : Int32)) + (0 : Int32)) &&& (255 : Int32))) hx hb hK hP 3 0 rfl rfl (by unfold vp_in; decide) dX5_adjust_118 ?_
              refine KC.callv (ci := 5) (rest := []) (wt := wR cI o (rSigns (upd (upd f 14 (1 : Int32)) 16 (0 : Int32)) (ua a 2 (upd (a 2) (7 : Int32).toNatClampNeg (((((a 2) (7 : Int32).toNatClampNeg) + (6 : Int32)) + (0 : Int32)) &&& (255 : Int32)))) ((upd (a 2) (7 : Int32).toNatClampNeg (((((a 2) (7 : Int32).toNatClampNeg) + (6 : Int32)) + (0 : Int32)) &&& (255 : Int32))) (7 : Int32).toNatClampNeg)) (ua a 2 (upd (a 2) (7 : Int32).toNatClampNeg (((((a 2) (7 : Int32).toNatClampNeg) + (6 : Int32)) + (0 : Int32)) &&& (255 : Int32))))) (kX5_signs l D cI o (upd (upd f 14 (1 : Int32)) 16 (0 : Int32)) (ua a 2 (upd (a 2) (7 : Int32).toNatClampNeg (((((a 2) (7 : Int32).toNatClampNeg) + (6 : Int32)) + (0 : Int32)) &&& (255 : Int32)))) ((upd (a 2) (7 : Int32).toNatClampNeg (((((a 2) (7 : Int32).toNatClampNeg) + (6 : Int32)) + (0 : Int32)) &&& (255 : Int32))) (7 : Int32).toNatClampNeg)) (cwV 1 hts gX5_adjust_X5_signs rfl rfl rfl (by decide +kernel) ⟨Nat.le_of_ble_eq_true rfl, Nat.le_of_ble_eq_true rfl⟩) ⟨hx, hb, hml, hown, hts⟩ hK hP hD hS hA rfl rfl rfl [0, 1, 2, 3, 4, 5, 6] [] [0, 1, 2, 3, 4, 5, 6] (by decide) rfl (wr := []) rfl (by decide) (by decide) (by decide) rfl rfl hl.1 rfl (Nat.le_of_ble_eq_true rfl) dX5_adjust_119 ⟨Nat.zero_le _, Nat.zero_le _⟩ (fun H locs hP hD hS => ?_)
              have hF : rAdjust f a = (rSigns (upd (upd f 14 (1 : Int32)) 16 (0 : Int32)) (ua a 2 (upd (a 2) (7 : Int32).toNatClampNeg (((((a 2) (7 : Int32).toNatClampNeg) + (6 : Int32)) + (0 : Int32)) &&& (255 : Int32)))) ((upd (a 2) (7 : Int32).toNatClampNeg (((((a 2) (7 : Int32).toNatClampNeg) + (6 : Int32)) + (0 : Int32)) &&& (255 : Int32))) (7 : Int32).toNatClampNeg), ua a 2 (upd (a 2) (7 : Int32).toNatClampNeg (((((a 2) (7 : Int32).toNatClampNeg) + (6 : Int32)) + (0 : Int32)) &&& (255 : Int32)))) := by
                unfold rAdjust
                refine (if_pos c_1).trans ?_
                refine (if_neg c_2).trans ?_
                refine (if_neg c_8).trans ?_
                refine (if_neg c_9).trans ?_
                rfl
              rw [hF]
              exact KC.retv hx hb hr hlocks hK hP hD hS dX5_adjust_122
            · exact absurd c_13 (by decide)
          · exact absurd c_12 (by decide)
      · refine lv_iconst (v := 1) hx hb dX5_adjust_47 (by decide) ?_
        refine lv_goto (tgt := 52) hx hb dX5_adjust_48 (by decide) ?_
        refine lv_istore_n (lv' := [(3, .int _), (2, .int _), (1, .int _), (0, .ref _)]) hx hb dX5_adjust_52 rfl hl (by decide) rfl (fun ls hl => ?_)
        refine lv_aload_n hx hb dX5_adjust_53 rfl (lv_at hl 3 rfl) ?_
        refine lv_iload_n hx hb dX5_adjust_54 rfl (lv_at hl 2 rfl) ?_
        refine lv_bipush (v := 15) hx hb dX5_adjust_55 (by decide) ?_
        refine lv_iand hx hb dX5_adjust_57 ?_
        refine lv_iload_n hx hb dX5_adjust_58 rfl (lv_at hl 1 rfl) ?_
        refine lv_iadd hx hb dX5_adjust_59 ?_
        refine lv_bipush (v := 15) hx hb dX5_adjust_60 (by decide) ?_
        refine lv_icmp_le (tgt := 69) hx hb dX5_adjust_62 (by decide) (fun c_14 => ?_) (fun c_14 => ?_)
        · refine lv_iconst (v := 0) hx hb dX5_adjust_69 (by decide) ?_
          refine pu_R_f14 (v := (0 : Int32)) hx hb hts hi5 hown hK hP hD hS (hts (.fieldLink RX5 63 "InvaderBoardModel" "half" "I") (List.mem_cons_of_mem _ (List.mem_append_left _ (List.mem_of_getElem? (i := 1) rfl)))) dX5_adjust_70 (fun H locs hP hD hS => ?_)
          refine lv_aload_n hx hb dX5_adjust_73 rfl (lv_at hl 3 rfl) ?_
          refine lv_iload_n hx hb dX5_adjust_74 rfl (lv_at hl 0 rfl) ?_
          refine lv_if_eq (tgt := 82) hx hb dX5_adjust_75 (by decide) (fun c_15 => ?_) (fun c_15 => ?_)
          · exact absurd c_15 (by decide)
          · refine lv_iconst (v := 1) hx hb dX5_adjust_78 (by decide) ?_
            refine lv_goto (tgt := 83) hx hb dX5_adjust_79 (by decide) ?_
            refine pu_R_f16 (v := (1 : Int32)) hx hb hts hi5 hown hK hP hD hS (hts (.fieldLink RX5 66 "InvaderBoardModel" "carry" "I") (List.mem_cons_of_mem _ (List.mem_append_left _ (List.mem_of_getElem? (i := 2) rfl)))) dX5_adjust_83 (fun H locs hP hD hS => ?_)
            refine lv_aload_n hx hb dX5_adjust_86 rfl (lv_at hl 3 rfl) ?_
            refine va_get (ci := 5) (v := .ref (o 23)) (C := RX5) (T := TX5) (N := 24) hx hb hts hi5 hown hK hP 0 rfl rfl 3 (by decide) (hts (.fieldLink RX5 16 "InvaderBoardModel" "reg" "[I") (List.mem_cons_of_mem _ (List.mem_append_left _ (List.mem_of_getElem? (i := 0) rfl)))) (fun _ h9 => h9) rfl dX5_adjust_87 ?_
            refine lv_bipush (v := 7) hx hb dX5_adjust_90 (by decide) ?_
            refine lv_iload_n hx hb dX5_adjust_92 rfl (lv_at hl 2 rfl) ?_
            refine lv_iload_n hx hb dX5_adjust_93 rfl (lv_at hl 1 rfl) ?_
            refine lv_iadd hx hb dX5_adjust_94 ?_
            refine lv_iload_n hx hb dX5_adjust_95 rfl (lv_at hl 0 rfl) ?_
            refine lv_if_eq (tgt := 104) hx hb dX5_adjust_96 (by decide) (fun c_16 => ?_) (fun c_16 => ?_)
            · exact absurd c_16 (by decide)
            · refine lv_bipush (v := 96) hx hb dX5_adjust_99 (by decide) ?_
              refine lv_goto (tgt := 105) hx hb dX5_adjust_101 (by decide) ?_
              refine lv_iadd hx hb dX5_adjust_105 ?_
              refine lv_sipush (v := 255) hx hb dX5_adjust_106 (by decide) ?_
              refine lv_iand hx hb dX5_adjust_109 ?_
              refine pu_R_a2 hx hb hK hP hD hS (by unfold vp_in; decide) dX5_adjust_110 (fun H locs hP hD hS => ?_)
              refine lv_aload_n hx hb dX5_adjust_111 rfl (lv_at hl 3 rfl) ?_
              refine lv_aload_n hx hb dX5_adjust_112 rfl (lv_at hl 3 rfl) ?_
              refine va_get (ci := 5) (v := .ref (o 23)) (C := RX5) (T := TX5) (N := 24) hx hb hts hi5 hown hK hP 0 rfl rfl 3 (by decide) (hts (.fieldLink RX5 16 "InvaderBoardModel" "reg" "[I") (List.mem_cons_of_mem _ (List.mem_append_left _ (List.mem_of_getElem? (i := 0) rfl)))) (fun _ h9 => h9) rfl dX5_adjust_113 ?_
              refine lv_bipush (v := 7) hx hb dX5_adjust_116 (by decide) ?_
              refine va_iald (f := upd (a 2) (7 : Int32).toNatClampNeg (((((a 2) (7 : Int32).toNatClampNeg) + (6 : Int32)) + (96 : Int32)) &&& (255 : Int32))) hx hb hK hP 3 0 rfl rfl (by unfold vp_in; decide) dX5_adjust_118 ?_
              refine KC.callv (ci := 5) (rest := []) (wt := wR cI o (rSigns (upd (upd f 14 (0 : Int32)) 16 (1 : Int32)) (ua a 2 (upd (a 2) (7 : Int32).toNatClampNeg (((((a 2) (7 : Int32).toNatClampNeg) + (6 : Int32)) + (96 : Int32)) &&& (255 : Int32)))) ((upd (a 2) (7 : Int32).toNatClampNeg (((((a 2) (7 : Int32).toNatClampNeg) + (6 : Int32)) + (96 : Int32)) &&& (255 : Int32))) (7 : Int32).toNatClampNeg)) (ua a 2 (upd (a 2) (7 : Int32).toNatClampNeg (((((a 2) (7 : Int32).toNatClampNeg) + (6 : Int32)) + (96 : Int32)) &&& (255 : Int32))))) (kX5_signs l D cI o (upd (upd f 14 (0 : Int32)) 16 (1 : Int32)) (ua a 2 (upd (a 2) (7 : Int32).toNatClampNeg (((((a 2) (7 : Int32).toNatClampNeg) + (6 : Int32)) + (96 : Int32)) &&& (255 : Int32)))) ((upd (a 2) (7 : Int32).toNatClampNeg (((((a 2) (7 : Int32).toNatClampNeg) + (6 : Int32)) + (96 : Int32)) &&& (255 : Int32))) (7 : Int32).toNatClampNeg)) (cwV 1 hts gX5_adjust_X5_signs rfl rfl rfl (by decide +kernel) ⟨Nat.le_of_ble_eq_true rfl, Nat.le_of_ble_eq_true rfl⟩) ⟨hx, hb, hml, hown, hts⟩ hK hP hD hS hA rfl rfl rfl [0, 1, 2, 3, 4, 5, 6] [] [0, 1, 2, 3, 4, 5, 6] (by decide) rfl (wr := []) rfl (by decide) (by decide) (by decide) rfl rfl hl.1 rfl (Nat.le_of_ble_eq_true rfl) dX5_adjust_119 ⟨Nat.zero_le _, Nat.zero_le _⟩ (fun H locs hP hD hS => ?_)
              have hF : rAdjust f a = (rSigns (upd (upd f 14 (0 : Int32)) 16 (1 : Int32)) (ua a 2 (upd (a 2) (7 : Int32).toNatClampNeg (((((a 2) (7 : Int32).toNatClampNeg) + (6 : Int32)) + (96 : Int32)) &&& (255 : Int32)))) ((upd (a 2) (7 : Int32).toNatClampNeg (((((a 2) (7 : Int32).toNatClampNeg) + (6 : Int32)) + (96 : Int32)) &&& (255 : Int32))) (7 : Int32).toNatClampNeg), ua a 2 (upd (a 2) (7 : Int32).toNatClampNeg (((((a 2) (7 : Int32).toNatClampNeg) + (6 : Int32)) + (96 : Int32)) &&& (255 : Int32)))) := by
                unfold rAdjust
                refine (if_pos c_1).trans ?_
                refine (if_neg c_2).trans ?_
                refine (if_pos c_8).trans ?_
                refine (if_pos c_14).trans ?_
                rfl
              rw [hF]
              exact KC.retv hx hb hr hlocks hK hP hD hS dX5_adjust_122
        · refine lv_iconst (v := 1) hx hb dX5_adjust_65 (by decide) ?_
          refine lv_goto (tgt := 70) hx hb dX5_adjust_66 (by decide) ?_
          refine pu_R_f14 (v := (1 : Int32)) hx hb hts hi5 hown hK hP hD hS (hts (.fieldLink RX5 63 "InvaderBoardModel" "half" "I") (List.mem_cons_of_mem _ (List.mem_append_left _ (List.mem_of_getElem? (i := 1) rfl)))) dX5_adjust_70 (fun H locs hP hD hS => ?_)
          refine lv_aload_n hx hb dX5_adjust_73 rfl (lv_at hl 3 rfl) ?_
          refine lv_iload_n hx hb dX5_adjust_74 rfl (lv_at hl 0 rfl) ?_
          refine lv_if_eq (tgt := 82) hx hb dX5_adjust_75 (by decide) (fun c_17 => ?_) (fun c_17 => ?_)
          · exact absurd c_17 (by decide)
          · refine lv_iconst (v := 1) hx hb dX5_adjust_78 (by decide) ?_
            refine lv_goto (tgt := 83) hx hb dX5_adjust_79 (by decide) ?_
            refine pu_R_f16 (v := (1 : Int32)) hx hb hts hi5 hown hK hP hD hS (hts (.fieldLink RX5 66 "InvaderBoardModel" "carry" "I") (List.mem_cons_of_mem _ (List.mem_append_left _ (List.mem_of_getElem? (i := 2) rfl)))) dX5_adjust_83 (fun H locs hP hD hS => ?_)
            refine lv_aload_n hx hb dX5_adjust_86 rfl (lv_at hl 3 rfl) ?_
            refine va_get (ci := 5) (v := .ref (o 23)) (C := RX5) (T := TX5) (N := 24) hx hb hts hi5 hown hK hP 0 rfl rfl 3 (by decide) (hts (.fieldLink RX5 16 "InvaderBoardModel" "reg" "[I") (List.mem_cons_of_mem _ (List.mem_append_left _ (List.mem_of_getElem? (i := 0) rfl)))) (fun _ h9 => h9) rfl dX5_adjust_87 ?_
            refine lv_bipush (v := 7) hx hb dX5_adjust_90 (by decide) ?_
            refine lv_iload_n hx hb dX5_adjust_92 rfl (lv_at hl 2 rfl) ?_
            refine lv_iload_n hx hb dX5_adjust_93 rfl (lv_at hl 1 rfl) ?_
            refine lv_iadd hx hb dX5_adjust_94 ?_
            refine lv_iload_n hx hb dX5_adjust_95 rfl (lv_at hl 0 rfl) ?_
            refine lv_if_eq (tgt := 104) hx hb dX5_adjust_96 (by decide) (fun c_18 => ?_) (fun c_18 => ?_)
            · exact absurd c_18 (by decide)
            · refine lv_bipush (v := 96) hx hb dX5_adjust_99 (by decide) ?_
              refine lv_goto (tgt := 105) hx hb dX5_adjust_101 (by decide) ?_
              refine lv_iadd hx hb dX5_adjust_105 ?_
              refine lv_sipush (v := 255) hx hb dX5_adjust_106 (by decide) ?_
              refine lv_iand hx hb dX5_adjust_109 ?_
              refine pu_R_a2 hx hb hK hP hD hS (by unfold vp_in; decide) dX5_adjust_110 (fun H locs hP hD hS => ?_)
              refine lv_aload_n hx hb dX5_adjust_111 rfl (lv_at hl 3 rfl) ?_
              refine lv_aload_n hx hb dX5_adjust_112 rfl (lv_at hl 3 rfl) ?_
              refine va_get (ci := 5) (v := .ref (o 23)) (C := RX5) (T := TX5) (N := 24) hx hb hts hi5 hown hK hP 0 rfl rfl 3 (by decide) (hts (.fieldLink RX5 16 "InvaderBoardModel" "reg" "[I") (List.mem_cons_of_mem _ (List.mem_append_left _ (List.mem_of_getElem? (i := 0) rfl)))) (fun _ h9 => h9) rfl dX5_adjust_113 ?_
              refine lv_bipush (v := 7) hx hb dX5_adjust_116 (by decide) ?_
              refine va_iald (f := upd (a 2) (7 : Int32).toNatClampNeg (((((a 2) (7 : Int32).toNatClampNeg) + (6 : Int32)) + (96 : Int32)) &&& (255 : Int32))) hx hb hK hP 3 0 rfl rfl (by unfold vp_in; decide) dX5_adjust_118 ?_
              refine KC.callv (ci := 5) (rest := []) (wt := wR cI o (rSigns (upd (upd f 14 (1 : Int32)) 16 (1 : Int32)) (ua a 2 (upd (a 2) (7 : Int32).toNatClampNeg (((((a 2) (7 : Int32).toNatClampNeg) + (6 : Int32)) + (96 : Int32)) &&& (255 : Int32)))) ((upd (a 2) (7 : Int32).toNatClampNeg (((((a 2) (7 : Int32).toNatClampNeg) + (6 : Int32)) + (96 : Int32)) &&& (255 : Int32))) (7 : Int32).toNatClampNeg)) (ua a 2 (upd (a 2) (7 : Int32).toNatClampNeg (((((a 2) (7 : Int32).toNatClampNeg) + (6 : Int32)) + (96 : Int32)) &&& (255 : Int32))))) (kX5_signs l D cI o (upd (upd f 14 (1 : Int32)) 16 (1 : Int32)) (ua a 2 (upd (a 2) (7 : Int32).toNatClampNeg (((((a 2) (7 : Int32).toNatClampNeg) + (6 : Int32)) + (96 : Int32)) &&& (255 : Int32)))) ((upd (a 2) (7 : Int32).toNatClampNeg (((((a 2) (7 : Int32).toNatClampNeg) + (6 : Int32)) + (96 : Int32)) &&& (255 : Int32))) (7 : Int32).toNatClampNeg)) (cwV 1 hts gX5_adjust_X5_signs rfl rfl rfl (by decide +kernel) ⟨Nat.le_of_ble_eq_true rfl, Nat.le_of_ble_eq_true rfl⟩) ⟨hx, hb, hml, hown, hts⟩ hK hP hD hS hA rfl rfl rfl [0, 1, 2, 3, 4, 5, 6] [] [0, 1, 2, 3, 4, 5, 6] (by decide) rfl (wr := []) rfl (by decide) (by decide) (by decide) rfl rfl hl.1 rfl (Nat.le_of_ble_eq_true rfl) dX5_adjust_119 ⟨Nat.zero_le _, Nat.zero_le _⟩ (fun H locs hP hD hS => ?_)
              have hF : rAdjust f a = (rSigns (upd (upd f 14 (1 : Int32)) 16 (1 : Int32)) (ua a 2 (upd (a 2) (7 : Int32).toNatClampNeg (((((a 2) (7 : Int32).toNatClampNeg) + (6 : Int32)) + (96 : Int32)) &&& (255 : Int32)))) ((upd (a 2) (7 : Int32).toNatClampNeg (((((a 2) (7 : Int32).toNatClampNeg) + (6 : Int32)) + (96 : Int32)) &&& (255 : Int32))) (7 : Int32).toNatClampNeg), ua a 2 (upd (a 2) (7 : Int32).toNatClampNeg (((((a 2) (7 : Int32).toNatClampNeg) + (6 : Int32)) + (96 : Int32)) &&& (255 : Int32)))) := by
                unfold rAdjust
                refine (if_pos c_1).trans ?_
                refine (if_neg c_2).trans ?_
                refine (if_pos c_8).trans ?_
                refine (if_neg c_14).trans ?_
                rfl
              rw [hF]
              exact KC.retv hx hb hr hlocks hK hP hD hS dX5_adjust_122
  · refine lv_aload_n hx hb dX5_adjust_17 rfl (lv_at hl 1 rfl) ?_
    refine va_get (ci := 5) (v := .int (f 14)) (C := RX5) (T := TX5) (N := 24) hx hb hts hi5 hown hK hP 0 rfl rfl 8 (by decide) (hts (.fieldLink RX5 63 "InvaderBoardModel" "half" "I") (List.mem_cons_of_mem _ (List.mem_append_left _ (List.mem_of_getElem? (i := 1) rfl)))) (fun _ h9 => h9) rfl dX5_adjust_18 ?_
    refine lv_iconst (v := 1) hx hb dX5_adjust_21 (by decide) ?_
    refine lv_icmp_ne (tgt := 30) hx hb dX5_adjust_22 (by decide) (fun c_19 => ?_) (fun c_19 => ?_)
    · refine lv_iconst (v := 0) hx hb dX5_adjust_30 (by decide) ?_
      refine lv_istore_n (lv' := [(2, .int _), (1, .int _), (0, .ref _)]) hx hb dX5_adjust_31 rfl hl (by decide) rfl (fun ls hl => ?_)
      refine lv_iload_n hx hb dX5_adjust_32 rfl (lv_at hl 1 rfl) ?_
      refine lv_sipush (v := 153) hx hb dX5_adjust_33 (by decide) ?_
      refine lv_icmp_gt (tgt := 47) hx hb dX5_adjust_36 (by decide) (fun c_20 => ?_) (fun c_20 => ?_)
      · refine lv_iconst (v := 1) hx hb dX5_adjust_47 (by decide) ?_
        refine lv_goto (tgt := 52) hx hb dX5_adjust_48 (by decide) ?_
        refine lv_istore_n (lv' := [(3, .int _), (2, .int _), (1, .int _), (0, .ref _)]) hx hb dX5_adjust_52 rfl hl (by decide) rfl (fun ls hl => ?_)
        refine lv_aload_n hx hb dX5_adjust_53 rfl (lv_at hl 3 rfl) ?_
        refine lv_iload_n hx hb dX5_adjust_54 rfl (lv_at hl 2 rfl) ?_
        refine lv_bipush (v := 15) hx hb dX5_adjust_55 (by decide) ?_
        refine lv_iand hx hb dX5_adjust_57 ?_
        refine lv_iload_n hx hb dX5_adjust_58 rfl (lv_at hl 1 rfl) ?_
        refine lv_iadd hx hb dX5_adjust_59 ?_
        refine lv_bipush (v := 15) hx hb dX5_adjust_60 (by decide) ?_
        refine lv_icmp_le (tgt := 69) hx hb dX5_adjust_62 (by decide) (fun c_21 => ?_) (fun c_21 => ?_)
        · refine lv_iconst (v := 0) hx hb dX5_adjust_69 (by decide) ?_
          refine pu_R_f14 (v := (0 : Int32)) hx hb hts hi5 hown hK hP hD hS (hts (.fieldLink RX5 63 "InvaderBoardModel" "half" "I") (List.mem_cons_of_mem _ (List.mem_append_left _ (List.mem_of_getElem? (i := 1) rfl)))) dX5_adjust_70 (fun H locs hP hD hS => ?_)
          refine lv_aload_n hx hb dX5_adjust_73 rfl (lv_at hl 3 rfl) ?_
          refine lv_iload_n hx hb dX5_adjust_74 rfl (lv_at hl 0 rfl) ?_
          refine lv_if_eq (tgt := 82) hx hb dX5_adjust_75 (by decide) (fun c_22 => ?_) (fun c_22 => ?_)
          · exact absurd c_22 (by decide)
          · refine lv_iconst (v := 1) hx hb dX5_adjust_78 (by decide) ?_
            refine lv_goto (tgt := 83) hx hb dX5_adjust_79 (by decide) ?_
            refine pu_R_f16 (v := (1 : Int32)) hx hb hts hi5 hown hK hP hD hS (hts (.fieldLink RX5 66 "InvaderBoardModel" "carry" "I") (List.mem_cons_of_mem _ (List.mem_append_left _ (List.mem_of_getElem? (i := 2) rfl)))) dX5_adjust_83 (fun H locs hP hD hS => ?_)
            refine lv_aload_n hx hb dX5_adjust_86 rfl (lv_at hl 3 rfl) ?_
            refine va_get (ci := 5) (v := .ref (o 23)) (C := RX5) (T := TX5) (N := 24) hx hb hts hi5 hown hK hP 0 rfl rfl 3 (by decide) (hts (.fieldLink RX5 16 "InvaderBoardModel" "reg" "[I") (List.mem_cons_of_mem _ (List.mem_append_left _ (List.mem_of_getElem? (i := 0) rfl)))) (fun _ h9 => h9) rfl dX5_adjust_87 ?_
            refine lv_bipush (v := 7) hx hb dX5_adjust_90 (by decide) ?_
            refine lv_iload_n hx hb dX5_adjust_92 rfl (lv_at hl 2 rfl) ?_
            refine lv_iload_n hx hb dX5_adjust_93 rfl (lv_at hl 1 rfl) ?_
            refine lv_iadd hx hb dX5_adjust_94 ?_
            refine lv_iload_n hx hb dX5_adjust_95 rfl (lv_at hl 0 rfl) ?_
            refine lv_if_eq (tgt := 104) hx hb dX5_adjust_96 (by decide) (fun c_23 => ?_) (fun c_23 => ?_)
            · exact absurd c_23 (by decide)
            · refine lv_bipush (v := 96) hx hb dX5_adjust_99 (by decide) ?_
              refine lv_goto (tgt := 105) hx hb dX5_adjust_101 (by decide) ?_
              refine lv_iadd hx hb dX5_adjust_105 ?_
              refine lv_sipush (v := 255) hx hb dX5_adjust_106 (by decide) ?_
              refine lv_iand hx hb dX5_adjust_109 ?_
              refine pu_R_a2 hx hb hK hP hD hS (by unfold vp_in; decide) dX5_adjust_110 (fun H locs hP hD hS => ?_)
              refine lv_aload_n hx hb dX5_adjust_111 rfl (lv_at hl 3 rfl) ?_
              refine lv_aload_n hx hb dX5_adjust_112 rfl (lv_at hl 3 rfl) ?_
              refine va_get (ci := 5) (v := .ref (o 23)) (C := RX5) (T := TX5) (N := 24) hx hb hts hi5 hown hK hP 0 rfl rfl 3 (by decide) (hts (.fieldLink RX5 16 "InvaderBoardModel" "reg" "[I") (List.mem_cons_of_mem _ (List.mem_append_left _ (List.mem_of_getElem? (i := 0) rfl)))) (fun _ h9 => h9) rfl dX5_adjust_113 ?_
              refine lv_bipush (v := 7) hx hb dX5_adjust_116 (by decide) ?_
              refine va_iald (f := upd (a 2) (7 : Int32).toNatClampNeg (((((a 2) (7 : Int32).toNatClampNeg) + (0 : Int32)) + (96 : Int32)) &&& (255 : Int32))) hx hb hK hP 3 0 rfl rfl (by unfold vp_in; decide) dX5_adjust_118 ?_
              refine KC.callv (ci := 5) (rest := []) (wt := wR cI o (rSigns (upd (upd f 14 (0 : Int32)) 16 (1 : Int32)) (ua a 2 (upd (a 2) (7 : Int32).toNatClampNeg (((((a 2) (7 : Int32).toNatClampNeg) + (0 : Int32)) + (96 : Int32)) &&& (255 : Int32)))) ((upd (a 2) (7 : Int32).toNatClampNeg (((((a 2) (7 : Int32).toNatClampNeg) + (0 : Int32)) + (96 : Int32)) &&& (255 : Int32))) (7 : Int32).toNatClampNeg)) (ua a 2 (upd (a 2) (7 : Int32).toNatClampNeg (((((a 2) (7 : Int32).toNatClampNeg) + (0 : Int32)) + (96 : Int32)) &&& (255 : Int32))))) (kX5_signs l D cI o (upd (upd f 14 (0 : Int32)) 16 (1 : Int32)) (ua a 2 (upd (a 2) (7 : Int32).toNatClampNeg (((((a 2) (7 : Int32).toNatClampNeg) + (0 : Int32)) + (96 : Int32)) &&& (255 : Int32)))) ((upd (a 2) (7 : Int32).toNatClampNeg (((((a 2) (7 : Int32).toNatClampNeg) + (0 : Int32)) + (96 : Int32)) &&& (255 : Int32))) (7 : Int32).toNatClampNeg)) (cwV 1 hts gX5_adjust_X5_signs rfl rfl rfl (by decide +kernel) ⟨Nat.le_of_ble_eq_true rfl, Nat.le_of_ble_eq_true rfl⟩) ⟨hx, hb, hml, hown, hts⟩ hK hP hD hS hA rfl rfl rfl [0, 1, 2, 3, 4, 5, 6] [] [0, 1, 2, 3, 4, 5, 6] (by decide) rfl (wr := []) rfl (by decide) (by decide) (by decide) rfl rfl hl.1 rfl (Nat.le_of_ble_eq_true rfl) dX5_adjust_119 ⟨Nat.zero_le _, Nat.zero_le _⟩ (fun H locs hP hD hS => ?_)
              have hF : rAdjust f a = (rSigns (upd (upd f 14 (0 : Int32)) 16 (1 : Int32)) (ua a 2 (upd (a 2) (7 : Int32).toNatClampNeg (((((a 2) (7 : Int32).toNatClampNeg) + (0 : Int32)) + (96 : Int32)) &&& (255 : Int32)))) ((upd (a 2) (7 : Int32).toNatClampNeg (((((a 2) (7 : Int32).toNatClampNeg) + (0 : Int32)) + (96 : Int32)) &&& (255 : Int32))) (7 : Int32).toNatClampNeg), ua a 2 (upd (a 2) (7 : Int32).toNatClampNeg (((((a 2) (7 : Int32).toNatClampNeg) + (0 : Int32)) + (96 : Int32)) &&& (255 : Int32)))) := by
                unfold rAdjust
                refine (if_neg c_1).trans ?_
                refine (if_neg c_19).trans ?_
                refine (if_pos c_20).trans ?_
                refine (if_pos c_21).trans ?_
                rfl
              rw [hF]
              exact KC.retv hx hb hr hlocks hK hP hD hS dX5_adjust_122
        · refine lv_iconst (v := 1) hx hb dX5_adjust_65 (by decide) ?_
          refine lv_goto (tgt := 70) hx hb dX5_adjust_66 (by decide) ?_
          refine pu_R_f14 (v := (1 : Int32)) hx hb hts hi5 hown hK hP hD hS (hts (.fieldLink RX5 63 "InvaderBoardModel" "half" "I") (List.mem_cons_of_mem _ (List.mem_append_left _ (List.mem_of_getElem? (i := 1) rfl)))) dX5_adjust_70 (fun H locs hP hD hS => ?_)
          refine lv_aload_n hx hb dX5_adjust_73 rfl (lv_at hl 3 rfl) ?_
          refine lv_iload_n hx hb dX5_adjust_74 rfl (lv_at hl 0 rfl) ?_
          refine lv_if_eq (tgt := 82) hx hb dX5_adjust_75 (by decide) (fun c_24 => ?_) (fun c_24 => ?_)
          · exact absurd c_24 (by decide)
          · refine lv_iconst (v := 1) hx hb dX5_adjust_78 (by decide) ?_
            refine lv_goto (tgt := 83) hx hb dX5_adjust_79 (by decide) ?_
            refine pu_R_f16 (v := (1 : Int32)) hx hb hts hi5 hown hK hP hD hS (hts (.fieldLink RX5 66 "InvaderBoardModel" "carry" "I") (List.mem_cons_of_mem _ (List.mem_append_left _ (List.mem_of_getElem? (i := 2) rfl)))) dX5_adjust_83 (fun H locs hP hD hS => ?_)
            refine lv_aload_n hx hb dX5_adjust_86 rfl (lv_at hl 3 rfl) ?_
            refine va_get (ci := 5) (v := .ref (o 23)) (C := RX5) (T := TX5) (N := 24) hx hb hts hi5 hown hK hP 0 rfl rfl 3 (by decide) (hts (.fieldLink RX5 16 "InvaderBoardModel" "reg" "[I") (List.mem_cons_of_mem _ (List.mem_append_left _ (List.mem_of_getElem? (i := 0) rfl)))) (fun _ h9 => h9) rfl dX5_adjust_87 ?_
            refine lv_bipush (v := 7) hx hb dX5_adjust_90 (by decide) ?_
            refine lv_iload_n hx hb dX5_adjust_92 rfl (lv_at hl 2 rfl) ?_
            refine lv_iload_n hx hb dX5_adjust_93 rfl (lv_at hl 1 rfl) ?_
            refine lv_iadd hx hb dX5_adjust_94 ?_
            refine lv_iload_n hx hb dX5_adjust_95 rfl (lv_at hl 0 rfl) ?_
            refine lv_if_eq (tgt := 104) hx hb dX5_adjust_96 (by decide) (fun c_25 => ?_) (fun c_25 => ?_)
            · exact absurd c_25 (by decide)
            · refine lv_bipush (v := 96) hx hb dX5_adjust_99 (by decide) ?_
              refine lv_goto (tgt := 105) hx hb dX5_adjust_101 (by decide) ?_
              refine lv_iadd hx hb dX5_adjust_105 ?_
              refine lv_sipush (v := 255) hx hb dX5_adjust_106 (by decide) ?_
              refine lv_iand hx hb dX5_adjust_109 ?_
              refine pu_R_a2 hx hb hK hP hD hS (by unfold vp_in; decide) dX5_adjust_110 (fun H locs hP hD hS => ?_)
              refine lv_aload_n hx hb dX5_adjust_111 rfl (lv_at hl 3 rfl) ?_
              refine lv_aload_n hx hb dX5_adjust_112 rfl (lv_at hl 3 rfl) ?_
              refine va_get (ci := 5) (v := .ref (o 23)) (C := RX5) (T := TX5) (N := 24) hx hb hts hi5 hown hK hP 0 rfl rfl 3 (by decide) (hts (.fieldLink RX5 16 "InvaderBoardModel" "reg" "[I") (List.mem_cons_of_mem _ (List.mem_append_left _ (List.mem_of_getElem? (i := 0) rfl)))) (fun _ h9 => h9) rfl dX5_adjust_113 ?_
              refine lv_bipush (v := 7) hx hb dX5_adjust_116 (by decide) ?_
              refine va_iald (f := upd (a 2) (7 : Int32).toNatClampNeg (((((a 2) (7 : Int32).toNatClampNeg) + (0 : Int32)) + (96 : Int32)) &&& (255 : Int32))) hx hb hK hP 3 0 rfl rfl (by unfold vp_in; decide) dX5_adjust_118 ?_
              refine KC.callv (ci := 5) (rest := []) (wt := wR cI o (rSigns (upd (upd f 14 (1 : Int32)) 16 (1 : Int32)) (ua a 2 (upd (a 2) (7 : Int32).toNatClampNeg (((((a 2) (7 : Int32).toNatClampNeg) + (0 : Int32)) + (96 : Int32)) &&& (255 : Int32)))) ((upd (a 2) (7 : Int32).toNatClampNeg (((((a 2) (7 : Int32).toNatClampNeg) + (0 : Int32)) + (96 : Int32)) &&& (255 : Int32))) (7 : Int32).toNatClampNeg)) (ua a 2 (upd (a 2) (7 : Int32).toNatClampNeg (((((a 2) (7 : Int32).toNatClampNeg) + (0 : Int32)) + (96 : Int32)) &&& (255 : Int32))))) (kX5_signs l D cI o (upd (upd f 14 (1 : Int32)) 16 (1 : Int32)) (ua a 2 (upd (a 2) (7 : Int32).toNatClampNeg (((((a 2) (7 : Int32).toNatClampNeg) + (0 : Int32)) + (96 : Int32)) &&& (255 : Int32)))) ((upd (a 2) (7 : Int32).toNatClampNeg (((((a 2) (7 : Int32).toNatClampNeg) + (0 : Int32)) + (96 : Int32)) &&& (255 : Int32))) (7 : Int32).toNatClampNeg)) (cwV 1 hts gX5_adjust_X5_signs rfl rfl rfl (by decide +kernel) ⟨Nat.le_of_ble_eq_true rfl, Nat.le_of_ble_eq_true rfl⟩) ⟨hx, hb, hml, hown, hts⟩ hK hP hD hS hA rfl rfl rfl [0, 1, 2, 3, 4, 5, 6] [] [0, 1, 2, 3, 4, 5, 6] (by decide) rfl (wr := []) rfl (by decide) (by decide) (by decide) rfl rfl hl.1 rfl (Nat.le_of_ble_eq_true rfl) dX5_adjust_119 ⟨Nat.zero_le _, Nat.zero_le _⟩ (fun H locs hP hD hS => ?_)
              have hF : rAdjust f a = (rSigns (upd (upd f 14 (1 : Int32)) 16 (1 : Int32)) (ua a 2 (upd (a 2) (7 : Int32).toNatClampNeg (((((a 2) (7 : Int32).toNatClampNeg) + (0 : Int32)) + (96 : Int32)) &&& (255 : Int32)))) ((upd (a 2) (7 : Int32).toNatClampNeg (((((a 2) (7 : Int32).toNatClampNeg) + (0 : Int32)) + (96 : Int32)) &&& (255 : Int32))) (7 : Int32).toNatClampNeg), ua a 2 (upd (a 2) (7 : Int32).toNatClampNeg (((((a 2) (7 : Int32).toNatClampNeg) + (0 : Int32)) + (96 : Int32)) &&& (255 : Int32)))) := by
                unfold rAdjust
                refine (if_neg c_1).trans ?_
                refine (if_neg c_19).trans ?_
                refine (if_pos c_20).trans ?_
                refine (if_neg c_21).trans ?_
                rfl
              rw [hF]
              exact KC.retv hx hb hr hlocks hK hP hD hS dX5_adjust_122
      · refine lv_aload_n hx hb dX5_adjust_39 rfl (lv_at hl 2 rfl) ?_
        refine va_get (ci := 5) (v := .int (f 16)) (C := RX5) (T := TX5) (N := 24) hx hb hts hi5 hown hK hP 0 rfl rfl 10 (by decide) (hts (.fieldLink RX5 66 "InvaderBoardModel" "carry" "I") (List.mem_cons_of_mem _ (List.mem_append_left _ (List.mem_of_getElem? (i := 2) rfl)))) (fun _ h9 => h9) rfl dX5_adjust_40 ?_
        refine lv_iconst (v := 1) hx hb dX5_adjust_43 (by decide) ?_
        refine lv_icmp_ne (tgt := 51) hx hb dX5_adjust_44 (by decide) (fun c_26 => ?_) (fun c_26 => ?_)
        · refine lv_iconst (v := 0) hx hb dX5_adjust_51 (by decide) ?_
          refine lv_istore_n (lv' := [(3, .int _), (2, .int _), (1, .int _), (0, .ref _)]) hx hb dX5_adjust_52 rfl hl (by decide) rfl (fun ls hl => ?_)
          refine lv_aload_n hx hb dX5_adjust_53 rfl (lv_at hl 3 rfl) ?_
          refine lv_iload_n hx hb dX5_adjust_54 rfl (lv_at hl 2 rfl) ?_
          refine lv_bipush (v := 15) hx hb dX5_adjust_55 (by decide) ?_
          refine lv_iand hx hb dX5_adjust_57 ?_
          refine lv_iload_n hx hb dX5_adjust_58 rfl (lv_at hl 1 rfl) ?_
          refine lv_iadd hx hb dX5_adjust_59 ?_
          refine lv_bipush (v := 15) hx hb dX5_adjust_60 (by decide) ?_
          refine lv_icmp_le (tgt := 69) hx hb dX5_adjust_62 (by decide) (fun c_27 => ?_) (fun c_27 => ?_)
          · refine lv_iconst (v := 0) hx hb dX5_adjust_69 (by decide) ?_
            refine pu_R_f14 (v := (0 : Int32)) hx hb hts hi5 hown hK hP hD hS (hts (.fieldLink RX5 63 "InvaderBoardModel" "half" "I") (List.mem_cons_of_mem _ (List.mem_append_left _ (List.mem_of_getElem? (i := 1) rfl)))) dX5_adjust_70 (fun H locs hP hD hS => ?_)
            refine lv_aload_n hx hb dX5_adjust_73 rfl (lv_at hl 3 rfl) ?_
            refine lv_iload_n hx hb dX5_adjust_74 rfl (lv_at hl 0 rfl) ?_
            refine lv_if_eq (tgt := 82) hx hb dX5_adjust_75 (by decide) (fun c_28 => ?_) (fun c_28 => ?_)
            · refine lv_iconst (v := 0) hx hb dX5_adjust_82 (by decide) ?_
              refine pu_R_f16 (v := (0 : Int32)) hx hb hts hi5 hown hK hP hD hS (hts (.fieldLink RX5 66 "InvaderBoardModel" "carry" "I") (List.mem_cons_of_mem _ (List.mem_append_left _ (List.mem_of_getElem? (i := 2) rfl)))) dX5_adjust_83 (fun H locs hP hD hS => ?_)
              refine lv_aload_n hx hb dX5_adjust_86 rfl (lv_at hl 3 rfl) ?_
              refine va_get (ci := 5) (v := .ref (o 23)) (C := RX5) (T := TX5) (N := 24) hx hb hts hi5 hown hK hP 0 rfl rfl 3 (by decide) (hts (.fieldLink RX5 16 "InvaderBoardModel" "reg" "[I") (List.mem_cons_of_mem _ (List.mem_append_left _ (List.mem_of_getElem? (i := 0) rfl)))) (fun _ h9 => h9) rfl dX5_adjust_87 ?_
              refine lv_bipush (v := 7) hx hb dX5_adjust_90 (by decide) ?_
              refine lv_iload_n hx hb dX5_adjust_92 rfl (lv_at hl 2 rfl) ?_
              refine lv_iload_n hx hb dX5_adjust_93 rfl (lv_at hl 1 rfl) ?_
              refine lv_iadd hx hb dX5_adjust_94 ?_
              refine lv_iload_n hx hb dX5_adjust_95 rfl (lv_at hl 0 rfl) ?_
              refine lv_if_eq (tgt := 104) hx hb dX5_adjust_96 (by decide) (fun c_29 => ?_) (fun c_29 => ?_)
              · refine lv_iconst (v := 0) hx hb dX5_adjust_104 (by decide) ?_
                refine lv_iadd hx hb dX5_adjust_105 ?_
                refine lv_sipush (v := 255) hx hb dX5_adjust_106 (by decide) ?_
                refine lv_iand hx hb dX5_adjust_109 ?_
                refine pu_R_a2 hx hb hK hP hD hS (by unfold vp_in; decide) dX5_adjust_110 (fun H locs hP hD hS => ?_)
                refine lv_aload_n hx hb dX5_adjust_111 rfl (lv_at hl 3 rfl) ?_
                refine lv_aload_n hx hb dX5_adjust_112 rfl (lv_at hl 3 rfl) ?_
                refine va_get (ci := 5) (v := .ref (o 23)) (C := RX5) (T := TX5) (N := 24) hx hb hts hi5 hown hK hP 0 rfl rfl 3 (by decide) (hts (.fieldLink RX5 16 "InvaderBoardModel" "reg" "[I") (List.mem_cons_of_mem _ (List.mem_append_left _ (List.mem_of_getElem? (i := 0) rfl)))) (fun _ h9 => h9) rfl dX5_adjust_113 ?_
                refine lv_bipush (v := 7) hx hb dX5_adjust_116 (by decide) ?_
                refine va_iald (f := upd (a 2) (7 : Int32).toNatClampNeg (((((a 2) (7 : Int32).toNatClampNeg) + (0 : Int32)) + (0 : Int32)) &&& (255 : Int32))) hx hb hK hP 3 0 rfl rfl (by unfold vp_in; decide) dX5_adjust_118 ?_
                refine KC.callv (ci := 5) (rest := []) (wt := wR cI o (rSigns (upd (upd f 14 (0 : Int32)) 16 (0 : Int32)) (ua a 2 (upd (a 2) (7 : Int32).toNatClampNeg (((((a 2) (7 : Int32).toNatClampNeg) + (0 : Int32)) + (0 : Int32)) &&& (255 : Int32)))) ((upd (a 2) (7 : Int32).toNatClampNeg (((((a 2) (7 : Int32).toNatClampNeg) + (0 : Int32)) + (0 : Int32)) &&& (255 : Int32))) (7 : Int32).toNatClampNeg)) (ua a 2 (upd (a 2) (7 : Int32).toNatClampNeg (((((a 2) (7 : Int32).toNatClampNeg) + (0 : Int32)) + (0 : Int32)) &&& (255 : Int32))))) (kX5_signs l D cI o (upd (upd f 14 (0 : Int32)) 16 (0 : Int32)) (ua a 2 (upd (a 2) (7 : Int32).toNatClampNeg (((((a 2) (7 : Int32).toNatClampNeg) + (0 : Int32)) + (0 : Int32)) &&& (255 : Int32)))) ((upd (a 2) (7 : Int32).toNatClampNeg (((((a 2) (7 : Int32).toNatClampNeg) + (0 : Int32)) + (0 : Int32)) &&& (255 : Int32))) (7 : Int32).toNatClampNeg)) (cwV 1 hts gX5_adjust_X5_signs rfl rfl rfl (by decide +kernel) ⟨Nat.le_of_ble_eq_true rfl, Nat.le_of_ble_eq_true rfl⟩) ⟨hx, hb, hml, hown, hts⟩ hK hP hD hS hA rfl rfl rfl [0, 1, 2, 3, 4, 5, 6] [] [0, 1, 2, 3, 4, 5, 6] (by decide) rfl (wr := []) rfl (by decide) (by decide) (by decide) rfl rfl hl.1 rfl (Nat.le_of_ble_eq_true rfl) dX5_adjust_119 ⟨Nat.zero_le _, Nat.zero_le _⟩ (fun H locs hP hD hS => ?_)
                have hF : rAdjust f a = (rSigns (upd (upd f 14 (0 : Int32)) 16 (0 : Int32)) (ua a 2 (upd (a 2) (7 : Int32).toNatClampNeg (((((a 2) (7 : Int32).toNatClampNeg) + (0 : Int32)) + (0 : Int32)) &&& (255 : Int32)))) ((upd (a 2) (7 : Int32).toNatClampNeg (((((a 2) (7 : Int32).toNatClampNeg) + (0 : Int32)) + (0 : Int32)) &&& (255 : Int32))) (7 : Int32).toNatClampNeg), ua a 2 (upd (a 2) (7 : Int32).toNatClampNeg (((((a 2) (7 : Int32).toNatClampNeg) + (0 : Int32)) + (0 : Int32)) &&& (255 : Int32)))) := by
                  unfold rAdjust
                  refine (if_neg c_1).trans ?_
                  refine (if_neg c_19).trans ?_
                  refine (if_neg c_20).trans ?_
                  refine (if_neg c_26).trans ?_
                  refine (if_pos c_27).trans ?_
                  rfl
                rw [hF]
                exact KC.retv hx hb hr hlocks hK hP hD hS dX5_adjust_122
              · exact absurd c_29 (by decide)
            · exact absurd c_28 (by decide)
          · refine lv_iconst (v := 1) hx hb dX5_adjust_65 (by decide) ?_
            refine lv_goto (tgt := 70) hx hb dX5_adjust_66 (by decide) ?_
            refine pu_R_f14 (v := (1 : Int32)) hx hb hts hi5 hown hK hP hD hS (hts (.fieldLink RX5 63 "InvaderBoardModel" "half" "I") (List.mem_cons_of_mem _ (List.mem_append_left _ (List.mem_of_getElem? (i := 1) rfl)))) dX5_adjust_70 (fun H locs hP hD hS => ?_)
            refine lv_aload_n hx hb dX5_adjust_73 rfl (lv_at hl 3 rfl) ?_
            refine lv_iload_n hx hb dX5_adjust_74 rfl (lv_at hl 0 rfl) ?_
            refine lv_if_eq (tgt := 82) hx hb dX5_adjust_75 (by decide) (fun c_30 => ?_) (fun c_30 => ?_)
            · refine lv_iconst (v := 0) hx hb dX5_adjust_82 (by decide) ?_
              refine pu_R_f16 (v := (0 : Int32)) hx hb hts hi5 hown hK hP hD hS (hts (.fieldLink RX5 66 "InvaderBoardModel" "carry" "I") (List.mem_cons_of_mem _ (List.mem_append_left _ (List.mem_of_getElem? (i := 2) rfl)))) dX5_adjust_83 (fun H locs hP hD hS => ?_)
              refine lv_aload_n hx hb dX5_adjust_86 rfl (lv_at hl 3 rfl) ?_
              refine va_get (ci := 5) (v := .ref (o 23)) (C := RX5) (T := TX5) (N := 24) hx hb hts hi5 hown hK hP 0 rfl rfl 3 (by decide) (hts (.fieldLink RX5 16 "InvaderBoardModel" "reg" "[I") (List.mem_cons_of_mem _ (List.mem_append_left _ (List.mem_of_getElem? (i := 0) rfl)))) (fun _ h9 => h9) rfl dX5_adjust_87 ?_
              refine lv_bipush (v := 7) hx hb dX5_adjust_90 (by decide) ?_
              refine lv_iload_n hx hb dX5_adjust_92 rfl (lv_at hl 2 rfl) ?_
              refine lv_iload_n hx hb dX5_adjust_93 rfl (lv_at hl 1 rfl) ?_
              refine lv_iadd hx hb dX5_adjust_94 ?_
              refine lv_iload_n hx hb dX5_adjust_95 rfl (lv_at hl 0 rfl) ?_
              refine lv_if_eq (tgt := 104) hx hb dX5_adjust_96 (by decide) (fun c_31 => ?_) (fun c_31 => ?_)
              · refine lv_iconst (v := 0) hx hb dX5_adjust_104 (by decide) ?_
                refine lv_iadd hx hb dX5_adjust_105 ?_
                refine lv_sipush (v := 255) hx hb dX5_adjust_106 (by decide) ?_
                refine lv_iand hx hb dX5_adjust_109 ?_
                refine pu_R_a2 hx hb hK hP hD hS (by unfold vp_in; decide) dX5_adjust_110 (fun H locs hP hD hS => ?_)
                refine lv_aload_n hx hb dX5_adjust_111 rfl (lv_at hl 3 rfl) ?_
                refine lv_aload_n hx hb dX5_adjust_112 rfl (lv_at hl 3 rfl) ?_
                refine va_get (ci := 5) (v := .ref (o 23)) (C := RX5) (T := TX5) (N := 24) hx hb hts hi5 hown hK hP 0 rfl rfl 3 (by decide) (hts (.fieldLink RX5 16 "InvaderBoardModel" "reg" "[I") (List.mem_cons_of_mem _ (List.mem_append_left _ (List.mem_of_getElem? (i := 0) rfl)))) (fun _ h9 => h9) rfl dX5_adjust_113 ?_
                refine lv_bipush (v := 7) hx hb dX5_adjust_116 (by decide) ?_
                refine va_iald (f := upd (a 2) (7 : Int32).toNatClampNeg (((((a 2) (7 : Int32).toNatClampNeg) + (0 : Int32)) + (0 : Int32)) &&& (255 : Int32))) hx hb hK hP 3 0 rfl rfl (by unfold vp_in; decide) dX5_adjust_118 ?_
                refine KC.callv (ci := 5) (rest := []) (wt := wR cI o (rSigns (upd (upd f 14 (1 : Int32)) 16 (0 : Int32)) (ua a 2 (upd (a 2) (7 : Int32).toNatClampNeg (((((a 2) (7 : Int32).toNatClampNeg) + (0 : Int32)) + (0 : Int32)) &&& (255 : Int32)))) ((upd (a 2) (7 : Int32).toNatClampNeg (((((a 2) (7 : Int32).toNatClampNeg) + (0 : Int32)) + (0 : Int32)) &&& (255 : Int32))) (7 : Int32).toNatClampNeg)) (ua a 2 (upd (a 2) (7 : Int32).toNatClampNeg (((((a 2) (7 : Int32).toNatClampNeg) + (0 : Int32)) + (0 : Int32)) &&& (255 : Int32))))) (kX5_signs l D cI o (upd (upd f 14 (1 : Int32)) 16 (0 : Int32)) (ua a 2 (upd (a 2) (7 : Int32).toNatClampNeg (((((a 2) (7 : Int32).toNatClampNeg) + (0 : Int32)) + (0 : Int32)) &&& (255 : Int32)))) ((upd (a 2) (7 : Int32).toNatClampNeg (((((a 2) (7 : Int32).toNatClampNeg) + (0 : Int32)) + (0 : Int32)) &&& (255 : Int32))) (7 : Int32).toNatClampNeg)) (cwV 1 hts gX5_adjust_X5_signs rfl rfl rfl (by decide +kernel) ⟨Nat.le_of_ble_eq_true rfl, Nat.le_of_ble_eq_true rfl⟩) ⟨hx, hb, hml, hown, hts⟩ hK hP hD hS hA rfl rfl rfl [0, 1, 2, 3, 4, 5, 6] [] [0, 1, 2, 3, 4, 5, 6] (by decide) rfl (wr := []) rfl (by decide) (by decide) (by decide) rfl rfl hl.1 rfl (Nat.le_of_ble_eq_true rfl) dX5_adjust_119 ⟨Nat.zero_le _, Nat.zero_le _⟩ (fun H locs hP hD hS => ?_)
                have hF : rAdjust f a = (rSigns (upd (upd f 14 (1 : Int32)) 16 (0 : Int32)) (ua a 2 (upd (a 2) (7 : Int32).toNatClampNeg (((((a 2) (7 : Int32).toNatClampNeg) + (0 : Int32)) + (0 : Int32)) &&& (255 : Int32)))) ((upd (a 2) (7 : Int32).toNatClampNeg (((((a 2) (7 : Int32).toNatClampNeg) + (0 : Int32)) + (0 : Int32)) &&& (255 : Int32))) (7 : Int32).toNatClampNeg), ua a 2 (upd (a 2) (7 : Int32).toNatClampNeg (((((a 2) (7 : Int32).toNatClampNeg) + (0 : Int32)) + (0 : Int32)) &&& (255 : Int32)))) := by
                  unfold rAdjust
                  refine (if_neg c_1).trans ?_
                  refine (if_neg c_19).trans ?_
                  refine (if_neg c_20).trans ?_
                  refine (if_neg c_26).trans ?_
                  refine (if_neg c_27).trans ?_
                  rfl
                rw [hF]
                exact KC.retv hx hb hr hlocks hK hP hD hS dX5_adjust_122
              · exact absurd c_31 (by decide)
            · exact absurd c_30 (by decide)
        · refine lv_iconst (v := 1) hx hb dX5_adjust_47 (by decide) ?_
          refine lv_goto (tgt := 52) hx hb dX5_adjust_48 (by decide) ?_
          refine lv_istore_n (lv' := [(3, .int _), (2, .int _), (1, .int _), (0, .ref _)]) hx hb dX5_adjust_52 rfl hl (by decide) rfl (fun ls hl => ?_)
          refine lv_aload_n hx hb dX5_adjust_53 rfl (lv_at hl 3 rfl) ?_
          refine lv_iload_n hx hb dX5_adjust_54 rfl (lv_at hl 2 rfl) ?_
          refine lv_bipush (v := 15) hx hb dX5_adjust_55 (by decide) ?_
          refine lv_iand hx hb dX5_adjust_57 ?_
          refine lv_iload_n hx hb dX5_adjust_58 rfl (lv_at hl 1 rfl) ?_
          refine lv_iadd hx hb dX5_adjust_59 ?_
          refine lv_bipush (v := 15) hx hb dX5_adjust_60 (by decide) ?_
          refine lv_icmp_le (tgt := 69) hx hb dX5_adjust_62 (by decide) (fun c_32 => ?_) (fun c_32 => ?_)
          · refine lv_iconst (v := 0) hx hb dX5_adjust_69 (by decide) ?_
            refine pu_R_f14 (v := (0 : Int32)) hx hb hts hi5 hown hK hP hD hS (hts (.fieldLink RX5 63 "InvaderBoardModel" "half" "I") (List.mem_cons_of_mem _ (List.mem_append_left _ (List.mem_of_getElem? (i := 1) rfl)))) dX5_adjust_70 (fun H locs hP hD hS => ?_)
            refine lv_aload_n hx hb dX5_adjust_73 rfl (lv_at hl 3 rfl) ?_
            refine lv_iload_n hx hb dX5_adjust_74 rfl (lv_at hl 0 rfl) ?_
            refine lv_if_eq (tgt := 82) hx hb dX5_adjust_75 (by decide) (fun c_33 => ?_) (fun c_33 => ?_)
            · exact absurd c_33 (by decide)
            · refine lv_iconst (v := 1) hx hb dX5_adjust_78 (by decide) ?_
              refine lv_goto (tgt := 83) hx hb dX5_adjust_79 (by decide) ?_
              refine pu_R_f16 (v := (1 : Int32)) hx hb hts hi5 hown hK hP hD hS (hts (.fieldLink RX5 66 "InvaderBoardModel" "carry" "I") (List.mem_cons_of_mem _ (List.mem_append_left _ (List.mem_of_getElem? (i := 2) rfl)))) dX5_adjust_83 (fun H locs hP hD hS => ?_)
              refine lv_aload_n hx hb dX5_adjust_86 rfl (lv_at hl 3 rfl) ?_
              refine va_get (ci := 5) (v := .ref (o 23)) (C := RX5) (T := TX5) (N := 24) hx hb hts hi5 hown hK hP 0 rfl rfl 3 (by decide) (hts (.fieldLink RX5 16 "InvaderBoardModel" "reg" "[I") (List.mem_cons_of_mem _ (List.mem_append_left _ (List.mem_of_getElem? (i := 0) rfl)))) (fun _ h9 => h9) rfl dX5_adjust_87 ?_
              refine lv_bipush (v := 7) hx hb dX5_adjust_90 (by decide) ?_
              refine lv_iload_n hx hb dX5_adjust_92 rfl (lv_at hl 2 rfl) ?_
              refine lv_iload_n hx hb dX5_adjust_93 rfl (lv_at hl 1 rfl) ?_
              refine lv_iadd hx hb dX5_adjust_94 ?_
              refine lv_iload_n hx hb dX5_adjust_95 rfl (lv_at hl 0 rfl) ?_
              refine lv_if_eq (tgt := 104) hx hb dX5_adjust_96 (by decide) (fun c_34 => ?_) (fun c_34 => ?_)
              · exact absurd c_34 (by decide)
              · refine lv_bipush (v := 96) hx hb dX5_adjust_99 (by decide) ?_
                refine lv_goto (tgt := 105) hx hb dX5_adjust_101 (by decide) ?_
                refine lv_iadd hx hb dX5_adjust_105 ?_
                refine lv_sipush (v := 255) hx hb dX5_adjust_106 (by decide) ?_
                refine lv_iand hx hb dX5_adjust_109 ?_
                refine pu_R_a2 hx hb hK hP hD hS (by unfold vp_in; decide) dX5_adjust_110 (fun H locs hP hD hS => ?_)
                refine lv_aload_n hx hb dX5_adjust_111 rfl (lv_at hl 3 rfl) ?_
                refine lv_aload_n hx hb dX5_adjust_112 rfl (lv_at hl 3 rfl) ?_
                refine va_get (ci := 5) (v := .ref (o 23)) (C := RX5) (T := TX5) (N := 24) hx hb hts hi5 hown hK hP 0 rfl rfl 3 (by decide) (hts (.fieldLink RX5 16 "InvaderBoardModel" "reg" "[I") (List.mem_cons_of_mem _ (List.mem_append_left _ (List.mem_of_getElem? (i := 0) rfl)))) (fun _ h9 => h9) rfl dX5_adjust_113 ?_
                refine lv_bipush (v := 7) hx hb dX5_adjust_116 (by decide) ?_
                refine va_iald (f := upd (a 2) (7 : Int32).toNatClampNeg (((((a 2) (7 : Int32).toNatClampNeg) + (0 : Int32)) + (96 : Int32)) &&& (255 : Int32))) hx hb hK hP 3 0 rfl rfl (by unfold vp_in; decide) dX5_adjust_118 ?_
                refine KC.callv (ci := 5) (rest := []) (wt := wR cI o (rSigns (upd (upd f 14 (0 : Int32)) 16 (1 : Int32)) (ua a 2 (upd (a 2) (7 : Int32).toNatClampNeg (((((a 2) (7 : Int32).toNatClampNeg) + (0 : Int32)) + (96 : Int32)) &&& (255 : Int32)))) ((upd (a 2) (7 : Int32).toNatClampNeg (((((a 2) (7 : Int32).toNatClampNeg) + (0 : Int32)) + (96 : Int32)) &&& (255 : Int32))) (7 : Int32).toNatClampNeg)) (ua a 2 (upd (a 2) (7 : Int32).toNatClampNeg (((((a 2) (7 : Int32).toNatClampNeg) + (0 : Int32)) + (96 : Int32)) &&& (255 : Int32))))) (kX5_signs l D cI o (upd (upd f 14 (0 : Int32)) 16 (1 : Int32)) (ua a 2 (upd (a 2) (7 : Int32).toNatClampNeg (((((a 2) (7 : Int32).toNatClampNeg) + (0 : Int32)) + (96 : Int32)) &&& (255 : Int32)))) ((upd (a 2) (7 : Int32).toNatClampNeg (((((a 2) (7 : Int32).toNatClampNeg) + (0 : Int32)) + (96 : Int32)) &&& (255 : Int32))) (7 : Int32).toNatClampNeg)) (cwV 1 hts gX5_adjust_X5_signs rfl rfl rfl (by decide +kernel) ⟨Nat.le_of_ble_eq_true rfl, Nat.le_of_ble_eq_true rfl⟩) ⟨hx, hb, hml, hown, hts⟩ hK hP hD hS hA rfl rfl rfl [0, 1, 2, 3, 4, 5, 6] [] [0, 1, 2, 3, 4, 5, 6] (by decide) rfl (wr := []) rfl (by decide) (by decide) (by decide) rfl rfl hl.1 rfl (Nat.le_of_ble_eq_true rfl) dX5_adjust_119 ⟨Nat.zero_le _, Nat.zero_le _⟩ (fun H locs hP hD hS => ?_)
                have hF : rAdjust f a = (rSigns (upd (upd f 14 (0 : Int32)) 16 (1 : Int32)) (ua a 2 (upd (a 2) (7 : Int32).toNatClampNeg (((((a 2) (7 : Int32).toNatClampNeg) + (0 : Int32)) + (96 : Int32)) &&& (255 : Int32)))) ((upd (a 2) (7 : Int32).toNatClampNeg (((((a 2) (7 : Int32).toNatClampNeg) + (0 : Int32)) + (96 : Int32)) &&& (255 : Int32))) (7 : Int32).toNatClampNeg), ua a 2 (upd (a 2) (7 : Int32).toNatClampNeg (((((a 2) (7 : Int32).toNatClampNeg) + (0 : Int32)) + (96 : Int32)) &&& (255 : Int32)))) := by
                  unfold rAdjust
                  refine (if_neg c_1).trans ?_
                  refine (if_neg c_19).trans ?_
                  refine (if_neg c_20).trans ?_
                  refine (if_pos c_26).trans ?_
                  refine (if_pos c_32).trans ?_
                  rfl
                rw [hF]
                exact KC.retv hx hb hr hlocks hK hP hD hS dX5_adjust_122
          · refine lv_iconst (v := 1) hx hb dX5_adjust_65 (by decide) ?_
            refine lv_goto (tgt := 70) hx hb dX5_adjust_66 (by decide) ?_
            refine pu_R_f14 (v := (1 : Int32)) hx hb hts hi5 hown hK hP hD hS (hts (.fieldLink RX5 63 "InvaderBoardModel" "half" "I") (List.mem_cons_of_mem _ (List.mem_append_left _ (List.mem_of_getElem? (i := 1) rfl)))) dX5_adjust_70 (fun H locs hP hD hS => ?_)
            refine lv_aload_n hx hb dX5_adjust_73 rfl (lv_at hl 3 rfl) ?_
            refine lv_iload_n hx hb dX5_adjust_74 rfl (lv_at hl 0 rfl) ?_
            refine lv_if_eq (tgt := 82) hx hb dX5_adjust_75 (by decide) (fun c_35 => ?_) (fun c_35 => ?_)
            · exact absurd c_35 (by decide)
            · refine lv_iconst (v := 1) hx hb dX5_adjust_78 (by decide) ?_
              refine lv_goto (tgt := 83) hx hb dX5_adjust_79 (by decide) ?_
              refine pu_R_f16 (v := (1 : Int32)) hx hb hts hi5 hown hK hP hD hS (hts (.fieldLink RX5 66 "InvaderBoardModel" "carry" "I") (List.mem_cons_of_mem _ (List.mem_append_left _ (List.mem_of_getElem? (i := 2) rfl)))) dX5_adjust_83 (fun H locs hP hD hS => ?_)
              refine lv_aload_n hx hb dX5_adjust_86 rfl (lv_at hl 3 rfl) ?_
              refine va_get (ci := 5) (v := .ref (o 23)) (C := RX5) (T := TX5) (N := 24) hx hb hts hi5 hown hK hP 0 rfl rfl 3 (by decide) (hts (.fieldLink RX5 16 "InvaderBoardModel" "reg" "[I") (List.mem_cons_of_mem _ (List.mem_append_left _ (List.mem_of_getElem? (i := 0) rfl)))) (fun _ h9 => h9) rfl dX5_adjust_87 ?_
              refine lv_bipush (v := 7) hx hb dX5_adjust_90 (by decide) ?_
              refine lv_iload_n hx hb dX5_adjust_92 rfl (lv_at hl 2 rfl) ?_
              refine lv_iload_n hx hb dX5_adjust_93 rfl (lv_at hl 1 rfl) ?_
              refine lv_iadd hx hb dX5_adjust_94 ?_
              refine lv_iload_n hx hb dX5_adjust_95 rfl (lv_at hl 0 rfl) ?_
              refine lv_if_eq (tgt := 104) hx hb dX5_adjust_96 (by decide) (fun c_36 => ?_) (fun c_36 => ?_)
              · exact absurd c_36 (by decide)
              · refine lv_bipush (v := 96) hx hb dX5_adjust_99 (by decide) ?_
                refine lv_goto (tgt := 105) hx hb dX5_adjust_101 (by decide) ?_
                refine lv_iadd hx hb dX5_adjust_105 ?_
                refine lv_sipush (v := 255) hx hb dX5_adjust_106 (by decide) ?_
                refine lv_iand hx hb dX5_adjust_109 ?_
                refine pu_R_a2 hx hb hK hP hD hS (by unfold vp_in; decide) dX5_adjust_110 (fun H locs hP hD hS => ?_)
                refine lv_aload_n hx hb dX5_adjust_111 rfl (lv_at hl 3 rfl) ?_
                refine lv_aload_n hx hb dX5_adjust_112 rfl (lv_at hl 3 rfl) ?_
                refine va_get (ci := 5) (v := .ref (o 23)) (C := RX5) (T := TX5) (N := 24) hx hb hts hi5 hown hK hP 0 rfl rfl 3 (by decide) (hts (.fieldLink RX5 16 "InvaderBoardModel" "reg" "[I") (List.mem_cons_of_mem _ (List.mem_append_left _ (List.mem_of_getElem? (i := 0) rfl)))) (fun _ h9 => h9) rfl dX5_adjust_113 ?_
                refine lv_bipush (v := 7) hx hb dX5_adjust_116 (by decide) ?_
                refine va_iald (f := upd (a 2) (7 : Int32).toNatClampNeg (((((a 2) (7 : Int32).toNatClampNeg) + (0 : Int32)) + (96 : Int32)) &&& (255 : Int32))) hx hb hK hP 3 0 rfl rfl (by unfold vp_in; decide) dX5_adjust_118 ?_
                refine KC.callv (ci := 5) (rest := []) (wt := wR cI o (rSigns (upd (upd f 14 (1 : Int32)) 16 (1 : Int32)) (ua a 2 (upd (a 2) (7 : Int32).toNatClampNeg (((((a 2) (7 : Int32).toNatClampNeg) + (0 : Int32)) + (96 : Int32)) &&& (255 : Int32)))) ((upd (a 2) (7 : Int32).toNatClampNeg (((((a 2) (7 : Int32).toNatClampNeg) + (0 : Int32)) + (96 : Int32)) &&& (255 : Int32))) (7 : Int32).toNatClampNeg)) (ua a 2 (upd (a 2) (7 : Int32).toNatClampNeg (((((a 2) (7 : Int32).toNatClampNeg) + (0 : Int32)) + (96 : Int32)) &&& (255 : Int32))))) (kX5_signs l D cI o (upd (upd f 14 (1 : Int32)) 16 (1 : Int32)) (ua a 2 (upd (a 2) (7 : Int32).toNatClampNeg (((((a 2) (7 : Int32).toNatClampNeg) + (0 : Int32)) + (96 : Int32)) &&& (255 : Int32)))) ((upd (a 2) (7 : Int32).toNatClampNeg (((((a 2) (7 : Int32).toNatClampNeg) + (0 : Int32)) + (96 : Int32)) &&& (255 : Int32))) (7 : Int32).toNatClampNeg)) (cwV 1 hts gX5_adjust_X5_signs rfl rfl rfl (by decide +kernel) ⟨Nat.le_of_ble_eq_true rfl, Nat.le_of_ble_eq_true rfl⟩) ⟨hx, hb, hml, hown, hts⟩ hK hP hD hS hA rfl rfl rfl [0, 1, 2, 3, 4, 5, 6] [] [0, 1, 2, 3, 4, 5, 6] (by decide) rfl (wr := []) rfl (by decide) (by decide) (by decide) rfl rfl hl.1 rfl (Nat.le_of_ble_eq_true rfl) dX5_adjust_119 ⟨Nat.zero_le _, Nat.zero_le _⟩ (fun H locs hP hD hS => ?_)
                have hF : rAdjust f a = (rSigns (upd (upd f 14 (1 : Int32)) 16 (1 : Int32)) (ua a 2 (upd (a 2) (7 : Int32).toNatClampNeg (((((a 2) (7 : Int32).toNatClampNeg) + (0 : Int32)) + (96 : Int32)) &&& (255 : Int32)))) ((upd (a 2) (7 : Int32).toNatClampNeg (((((a 2) (7 : Int32).toNatClampNeg) + (0 : Int32)) + (96 : Int32)) &&& (255 : Int32))) (7 : Int32).toNatClampNeg), ua a 2 (upd (a 2) (7 : Int32).toNatClampNeg (((((a 2) (7 : Int32).toNatClampNeg) + (0 : Int32)) + (96 : Int32)) &&& (255 : Int32)))) := by
                  unfold rAdjust
                  refine (if_neg c_1).trans ?_
                  refine (if_neg c_19).trans ?_
                  refine (if_neg c_20).trans ?_
                  refine (if_pos c_26).trans ?_
                  refine (if_neg c_32).trans ?_
                  rfl
                rw [hF]
                exact KC.retv hx hb hr hlocks hK hP hD hS dX5_adjust_122
    · refine lv_bipush (v := 6) hx hb dX5_adjust_25 (by decide) ?_
      refine lv_goto (tgt := 31) hx hb dX5_adjust_27 (by decide) ?_
      refine lv_istore_n (lv' := [(2, .int _), (1, .int _), (0, .ref _)]) hx hb dX5_adjust_31 rfl hl (by decide) rfl (fun ls hl => ?_)
      refine lv_iload_n hx hb dX5_adjust_32 rfl (lv_at hl 1 rfl) ?_
      refine lv_sipush (v := 153) hx hb dX5_adjust_33 (by decide) ?_
      refine lv_icmp_gt (tgt := 47) hx hb dX5_adjust_36 (by decide) (fun c_37 => ?_) (fun c_37 => ?_)
      · refine lv_iconst (v := 1) hx hb dX5_adjust_47 (by decide) ?_
        refine lv_goto (tgt := 52) hx hb dX5_adjust_48 (by decide) ?_
        refine lv_istore_n (lv' := [(3, .int _), (2, .int _), (1, .int _), (0, .ref _)]) hx hb dX5_adjust_52 rfl hl (by decide) rfl (fun ls hl => ?_)
        refine lv_aload_n hx hb dX5_adjust_53 rfl (lv_at hl 3 rfl) ?_
        refine lv_iload_n hx hb dX5_adjust_54 rfl (lv_at hl 2 rfl) ?_
        refine lv_bipush (v := 15) hx hb dX5_adjust_55 (by decide) ?_
        refine lv_iand hx hb dX5_adjust_57 ?_
        refine lv_iload_n hx hb dX5_adjust_58 rfl (lv_at hl 1 rfl) ?_
        refine lv_iadd hx hb dX5_adjust_59 ?_
        refine lv_bipush (v := 15) hx hb dX5_adjust_60 (by decide) ?_
        refine lv_icmp_le (tgt := 69) hx hb dX5_adjust_62 (by decide) (fun c_38 => ?_) (fun c_38 => ?_)
        · refine lv_iconst (v := 0) hx hb dX5_adjust_69 (by decide) ?_
          refine pu_R_f14 (v := (0 : Int32)) hx hb hts hi5 hown hK hP hD hS (hts (.fieldLink RX5 63 "InvaderBoardModel" "half" "I") (List.mem_cons_of_mem _ (List.mem_append_left _ (List.mem_of_getElem? (i := 1) rfl)))) dX5_adjust_70 (fun H locs hP hD hS => ?_)
          refine lv_aload_n hx hb dX5_adjust_73 rfl (lv_at hl 3 rfl) ?_
          refine lv_iload_n hx hb dX5_adjust_74 rfl (lv_at hl 0 rfl) ?_
          refine lv_if_eq (tgt := 82) hx hb dX5_adjust_75 (by decide) (fun c_39 => ?_) (fun c_39 => ?_)
          · exact absurd c_39 (by decide)
          · refine lv_iconst (v := 1) hx hb dX5_adjust_78 (by decide) ?_
            refine lv_goto (tgt := 83) hx hb dX5_adjust_79 (by decide) ?_
            refine pu_R_f16 (v := (1 : Int32)) hx hb hts hi5 hown hK hP hD hS (hts (.fieldLink RX5 66 "InvaderBoardModel" "carry" "I") (List.mem_cons_of_mem _ (List.mem_append_left _ (List.mem_of_getElem? (i := 2) rfl)))) dX5_adjust_83 (fun H locs hP hD hS => ?_)
            refine lv_aload_n hx hb dX5_adjust_86 rfl (lv_at hl 3 rfl) ?_
            refine va_get (ci := 5) (v := .ref (o 23)) (C := RX5) (T := TX5) (N := 24) hx hb hts hi5 hown hK hP 0 rfl rfl 3 (by decide) (hts (.fieldLink RX5 16 "InvaderBoardModel" "reg" "[I") (List.mem_cons_of_mem _ (List.mem_append_left _ (List.mem_of_getElem? (i := 0) rfl)))) (fun _ h9 => h9) rfl dX5_adjust_87 ?_
            refine lv_bipush (v := 7) hx hb dX5_adjust_90 (by decide) ?_
            refine lv_iload_n hx hb dX5_adjust_92 rfl (lv_at hl 2 rfl) ?_
            refine lv_iload_n hx hb dX5_adjust_93 rfl (lv_at hl 1 rfl) ?_
            refine lv_iadd hx hb dX5_adjust_94 ?_
            refine lv_iload_n hx hb dX5_adjust_95 rfl (lv_at hl 0 rfl) ?_
            refine lv_if_eq (tgt := 104) hx hb dX5_adjust_96 (by decide) (fun c_40 => ?_) (fun c_40 => ?_)
            · exact absurd c_40 (by decide)
            · refine lv_bipush (v := 96) hx hb dX5_adjust_99 (by decide) ?_
              refine lv_goto (tgt := 105) hx hb dX5_adjust_101 (by decide) ?_
              refine lv_iadd hx hb dX5_adjust_105 ?_
              refine lv_sipush (v := 255) hx hb dX5_adjust_106 (by decide) ?_
              refine lv_iand hx hb dX5_adjust_109 ?_
              refine pu_R_a2 hx hb hK hP hD hS (by unfold vp_in; decide) dX5_adjust_110 (fun H locs hP hD hS => ?_)
              refine lv_aload_n hx hb dX5_adjust_111 rfl (lv_at hl 3 rfl) ?_
              refine lv_aload_n hx hb dX5_adjust_112 rfl (lv_at hl 3 rfl) ?_
              refine va_get (ci := 5) (v := .ref (o 23)) (C := RX5) (T := TX5) (N := 24) hx hb hts hi5 hown hK hP 0 rfl rfl 3 (by decide) (hts (.fieldLink RX5 16 "InvaderBoardModel" "reg" "[I") (List.mem_cons_of_mem _ (List.mem_append_left _ (List.mem_of_getElem? (i := 0) rfl)))) (fun _ h9 => h9) rfl dX5_adjust_113 ?_
              refine lv_bipush (v := 7) hx hb dX5_adjust_116 (by decide) ?_
              refine va_iald (f := upd (a 2) (7 : Int32).toNatClampNeg (((((a 2) (7 : Int32).toNatClampNeg) + (6 : Int32)) + (96 : Int32)) &&& (255 : Int32))) hx hb hK hP 3 0 rfl rfl (by unfold vp_in; decide) dX5_adjust_118 ?_
              refine KC.callv (ci := 5) (rest := []) (wt := wR cI o (rSigns (upd (upd f 14 (0 : Int32)) 16 (1 : Int32)) (ua a 2 (upd (a 2) (7 : Int32).toNatClampNeg (((((a 2) (7 : Int32).toNatClampNeg) + (6 : Int32)) + (96 : Int32)) &&& (255 : Int32)))) ((upd (a 2) (7 : Int32).toNatClampNeg (((((a 2) (7 : Int32).toNatClampNeg) + (6 : Int32)) + (96 : Int32)) &&& (255 : Int32))) (7 : Int32).toNatClampNeg)) (ua a 2 (upd (a 2) (7 : Int32).toNatClampNeg (((((a 2) (7 : Int32).toNatClampNeg) + (6 : Int32)) + (96 : Int32)) &&& (255 : Int32))))) (kX5_signs l D cI o (upd (upd f 14 (0 : Int32)) 16 (1 : Int32)) (ua a 2 (upd (a 2) (7 : Int32).toNatClampNeg (((((a 2) (7 : Int32).toNatClampNeg) + (6 : Int32)) + (96 : Int32)) &&& (255 : Int32)))) ((upd (a 2) (7 : Int32).toNatClampNeg (((((a 2) (7 : Int32).toNatClampNeg) + (6 : Int32)) + (96 : Int32)) &&& (255 : Int32))) (7 : Int32).toNatClampNeg)) (cwV 1 hts gX5_adjust_X5_signs rfl rfl rfl (by decide +kernel) ⟨Nat.le_of_ble_eq_true rfl, Nat.le_of_ble_eq_true rfl⟩) ⟨hx, hb, hml, hown, hts⟩ hK hP hD hS hA rfl rfl rfl [0, 1, 2, 3, 4, 5, 6] [] [0, 1, 2, 3, 4, 5, 6] (by decide) rfl (wr := []) rfl (by decide) (by decide) (by decide) rfl rfl hl.1 rfl (Nat.le_of_ble_eq_true rfl) dX5_adjust_119 ⟨Nat.zero_le _, Nat.zero_le _⟩ (fun H locs hP hD hS => ?_)
              have hF : rAdjust f a = (rSigns (upd (upd f 14 (0 : Int32)) 16 (1 : Int32)) (ua a 2 (upd (a 2) (7 : Int32).toNatClampNeg (((((a 2) (7 : Int32).toNatClampNeg) + (6 : Int32)) + (96 : Int32)) &&& (255 : Int32)))) ((upd (a 2) (7 : Int32).toNatClampNeg (((((a 2) (7 : Int32).toNatClampNeg) + (6 : Int32)) + (96 : Int32)) &&& (255 : Int32))) (7 : Int32).toNatClampNeg), ua a 2 (upd (a 2) (7 : Int32).toNatClampNeg (((((a 2) (7 : Int32).toNatClampNeg) + (6 : Int32)) + (96 : Int32)) &&& (255 : Int32)))) := by
                unfold rAdjust
                refine (if_neg c_1).trans ?_
                refine (if_pos c_19).trans ?_
                refine (if_pos c_37).trans ?_
                refine (if_pos c_38).trans ?_
                rfl
              rw [hF]
              exact KC.retv hx hb hr hlocks hK hP hD hS dX5_adjust_122
        · refine lv_iconst (v := 1) hx hb dX5_adjust_65 (by decide) ?_
          refine lv_goto (tgt := 70) hx hb dX5_adjust_66 (by decide) ?_
          refine pu_R_f14 (v := (1 : Int32)) hx hb hts hi5 hown hK hP hD hS (hts (.fieldLink RX5 63 "InvaderBoardModel" "half" "I") (List.mem_cons_of_mem _ (List.mem_append_left _ (List.mem_of_getElem? (i := 1) rfl)))) dX5_adjust_70 (fun H locs hP hD hS => ?_)
          refine lv_aload_n hx hb dX5_adjust_73 rfl (lv_at hl 3 rfl) ?_
          refine lv_iload_n hx hb dX5_adjust_74 rfl (lv_at hl 0 rfl) ?_
          refine lv_if_eq (tgt := 82) hx hb dX5_adjust_75 (by decide) (fun c_41 => ?_) (fun c_41 => ?_)
          · exact absurd c_41 (by decide)
          · refine lv_iconst (v := 1) hx hb dX5_adjust_78 (by decide) ?_
            refine lv_goto (tgt := 83) hx hb dX5_adjust_79 (by decide) ?_
            refine pu_R_f16 (v := (1 : Int32)) hx hb hts hi5 hown hK hP hD hS (hts (.fieldLink RX5 66 "InvaderBoardModel" "carry" "I") (List.mem_cons_of_mem _ (List.mem_append_left _ (List.mem_of_getElem? (i := 2) rfl)))) dX5_adjust_83 (fun H locs hP hD hS => ?_)
            refine lv_aload_n hx hb dX5_adjust_86 rfl (lv_at hl 3 rfl) ?_
            refine va_get (ci := 5) (v := .ref (o 23)) (C := RX5) (T := TX5) (N := 24) hx hb hts hi5 hown hK hP 0 rfl rfl 3 (by decide) (hts (.fieldLink RX5 16 "InvaderBoardModel" "reg" "[I") (List.mem_cons_of_mem _ (List.mem_append_left _ (List.mem_of_getElem? (i := 0) rfl)))) (fun _ h9 => h9) rfl dX5_adjust_87 ?_
            refine lv_bipush (v := 7) hx hb dX5_adjust_90 (by decide) ?_
            refine lv_iload_n hx hb dX5_adjust_92 rfl (lv_at hl 2 rfl) ?_
            refine lv_iload_n hx hb dX5_adjust_93 rfl (lv_at hl 1 rfl) ?_
            refine lv_iadd hx hb dX5_adjust_94 ?_
            refine lv_iload_n hx hb dX5_adjust_95 rfl (lv_at hl 0 rfl) ?_
            refine lv_if_eq (tgt := 104) hx hb dX5_adjust_96 (by decide) (fun c_42 => ?_) (fun c_42 => ?_)
            · exact absurd c_42 (by decide)
            · refine lv_bipush (v := 96) hx hb dX5_adjust_99 (by decide) ?_
              refine lv_goto (tgt := 105) hx hb dX5_adjust_101 (by decide) ?_
              refine lv_iadd hx hb dX5_adjust_105 ?_
              refine lv_sipush (v := 255) hx hb dX5_adjust_106 (by decide) ?_
              refine lv_iand hx hb dX5_adjust_109 ?_
              refine pu_R_a2 hx hb hK hP hD hS (by unfold vp_in; decide) dX5_adjust_110 (fun H locs hP hD hS => ?_)
              refine lv_aload_n hx hb dX5_adjust_111 rfl (lv_at hl 3 rfl) ?_
              refine lv_aload_n hx hb dX5_adjust_112 rfl (lv_at hl 3 rfl) ?_
              refine va_get (ci := 5) (v := .ref (o 23)) (C := RX5) (T := TX5) (N := 24) hx hb hts hi5 hown hK hP 0 rfl rfl 3 (by decide) (hts (.fieldLink RX5 16 "InvaderBoardModel" "reg" "[I") (List.mem_cons_of_mem _ (List.mem_append_left _ (List.mem_of_getElem? (i := 0) rfl)))) (fun _ h9 => h9) rfl dX5_adjust_113 ?_
              refine lv_bipush (v := 7) hx hb dX5_adjust_116 (by decide) ?_
              refine va_iald (f := upd (a 2) (7 : Int32).toNatClampNeg (((((a 2) (7 : Int32).toNatClampNeg) + (6 : Int32)) + (96 : Int32)) &&& (255 : Int32))) hx hb hK hP 3 0 rfl rfl (by unfold vp_in; decide) dX5_adjust_118 ?_
              refine KC.callv (ci := 5) (rest := []) (wt := wR cI o (rSigns (upd (upd f 14 (1 : Int32)) 16 (1 : Int32)) (ua a 2 (upd (a 2) (7 : Int32).toNatClampNeg (((((a 2) (7 : Int32).toNatClampNeg) + (6 : Int32)) + (96 : Int32)) &&& (255 : Int32)))) ((upd (a 2) (7 : Int32).toNatClampNeg (((((a 2) (7 : Int32).toNatClampNeg) + (6 : Int32)) + (96 : Int32)) &&& (255 : Int32))) (7 : Int32).toNatClampNeg)) (ua a 2 (upd (a 2) (7 : Int32).toNatClampNeg (((((a 2) (7 : Int32).toNatClampNeg) + (6 : Int32)) + (96 : Int32)) &&& (255 : Int32))))) (kX5_signs l D cI o (upd (upd f 14 (1 : Int32)) 16 (1 : Int32)) (ua a 2 (upd (a 2) (7 : Int32).toNatClampNeg (((((a 2) (7 : Int32).toNatClampNeg) + (6 : Int32)) + (96 : Int32)) &&& (255 : Int32)))) ((upd (a 2) (7 : Int32).toNatClampNeg (((((a 2) (7 : Int32).toNatClampNeg) + (6 : Int32)) + (96 : Int32)) &&& (255 : Int32))) (7 : Int32).toNatClampNeg)) (cwV 1 hts gX5_adjust_X5_signs rfl rfl rfl (by decide +kernel) ⟨Nat.le_of_ble_eq_true rfl, Nat.le_of_ble_eq_true rfl⟩) ⟨hx, hb, hml, hown, hts⟩ hK hP hD hS hA rfl rfl rfl [0, 1, 2, 3, 4, 5, 6] [] [0, 1, 2, 3, 4, 5, 6] (by decide) rfl (wr := []) rfl (by decide) (by decide) (by decide) rfl rfl hl.1 rfl (Nat.le_of_ble_eq_true rfl) dX5_adjust_119 ⟨Nat.zero_le _, Nat.zero_le _⟩ (fun H locs hP hD hS => ?_)
              have hF : rAdjust f a = (rSigns (upd (upd f 14 (1 : Int32)) 16 (1 : Int32)) (ua a 2 (upd (a 2) (7 : Int32).toNatClampNeg (((((a 2) (7 : Int32).toNatClampNeg) + (6 : Int32)) + (96 : Int32)) &&& (255 : Int32)))) ((upd (a 2) (7 : Int32).toNatClampNeg (((((a 2) (7 : Int32).toNatClampNeg) + (6 : Int32)) + (96 : Int32)) &&& (255 : Int32))) (7 : Int32).toNatClampNeg), ua a 2 (upd (a 2) (7 : Int32).toNatClampNeg (((((a 2) (7 : Int32).toNatClampNeg) + (6 : Int32)) + (96 : Int32)) &&& (255 : Int32)))) := by
                unfold rAdjust
                refine (if_neg c_1).trans ?_
                refine (if_pos c_19).trans ?_
                refine (if_pos c_37).trans ?_
                refine (if_neg c_38).trans ?_
                rfl
              rw [hF]
              exact KC.retv hx hb hr hlocks hK hP hD hS dX5_adjust_122
      · refine lv_aload_n hx hb dX5_adjust_39 rfl (lv_at hl 2 rfl) ?_
        refine va_get (ci := 5) (v := .int (f 16)) (C := RX5) (T := TX5) (N := 24) hx hb hts hi5 hown hK hP 0 rfl rfl 10 (by decide) (hts (.fieldLink RX5 66 "InvaderBoardModel" "carry" "I") (List.mem_cons_of_mem _ (List.mem_append_left _ (List.mem_of_getElem? (i := 2) rfl)))) (fun _ h9 => h9) rfl dX5_adjust_40 ?_
        refine lv_iconst (v := 1) hx hb dX5_adjust_43 (by decide) ?_
        refine lv_icmp_ne (tgt := 51) hx hb dX5_adjust_44 (by decide) (fun c_43 => ?_) (fun c_43 => ?_)
        · refine lv_iconst (v := 0) hx hb dX5_adjust_51 (by decide) ?_
          refine lv_istore_n (lv' := [(3, .int _), (2, .int _), (1, .int _), (0, .ref _)]) hx hb dX5_adjust_52 rfl hl (by decide) rfl (fun ls hl => ?_)
          refine lv_aload_n hx hb dX5_adjust_53 rfl (lv_at hl 3 rfl) ?_
          refine lv_iload_n hx hb dX5_adjust_54 rfl (lv_at hl 2 rfl) ?_
          refine lv_bipush (v := 15) hx hb dX5_adjust_55 (by decide) ?_
          refine lv_iand hx hb dX5_adjust_57 ?_
          refine lv_iload_n hx hb dX5_adjust_58 rfl (lv_at hl 1 rfl) ?_
          refine lv_iadd hx hb dX5_adjust_59 ?_
          refine lv_bipush (v := 15) hx hb dX5_adjust_60 (by decide) ?_
          refine lv_icmp_le (tgt := 69) hx hb dX5_adjust_62 (by decide) (fun c_44 => ?_) (fun c_44 => ?_)
          · refine lv_iconst (v := 0) hx hb dX5_adjust_69 (by decide) ?_
            refine pu_R_f14 (v := (0 : Int32)) hx hb hts hi5 hown hK hP hD hS (hts (.fieldLink RX5 63 "InvaderBoardModel" "half" "I") (List.mem_cons_of_mem _ (List.mem_append_left _ (List.mem_of_getElem? (i := 1) rfl)))) dX5_adjust_70 (fun H locs hP hD hS => ?_)
            refine lv_aload_n hx hb dX5_adjust_73 rfl (lv_at hl 3 rfl) ?_
            refine lv_iload_n hx hb dX5_adjust_74 rfl (lv_at hl 0 rfl) ?_
            refine lv_if_eq (tgt := 82) hx hb dX5_adjust_75 (by decide) (fun c_45 => ?_) (fun c_45 => ?_)
            · refine lv_iconst (v := 0) hx hb dX5_adjust_82 (by decide) ?_
              refine pu_R_f16 (v := (0 : Int32)) hx hb hts hi5 hown hK hP hD hS (hts (.fieldLink RX5 66 "InvaderBoardModel" "carry" "I") (List.mem_cons_of_mem _ (List.mem_append_left _ (List.mem_of_getElem? (i := 2) rfl)))) dX5_adjust_83 (fun H locs hP hD hS => ?_)
              refine lv_aload_n hx hb dX5_adjust_86 rfl (lv_at hl 3 rfl) ?_
              refine va_get (ci := 5) (v := .ref (o 23)) (C := RX5) (T := TX5) (N := 24) hx hb hts hi5 hown hK hP 0 rfl rfl 3 (by decide) (hts (.fieldLink RX5 16 "InvaderBoardModel" "reg" "[I") (List.mem_cons_of_mem _ (List.mem_append_left _ (List.mem_of_getElem? (i := 0) rfl)))) (fun _ h9 => h9) rfl dX5_adjust_87 ?_
              refine lv_bipush (v := 7) hx hb dX5_adjust_90 (by decide) ?_
              refine lv_iload_n hx hb dX5_adjust_92 rfl (lv_at hl 2 rfl) ?_
              refine lv_iload_n hx hb dX5_adjust_93 rfl (lv_at hl 1 rfl) ?_
              refine lv_iadd hx hb dX5_adjust_94 ?_
              refine lv_iload_n hx hb dX5_adjust_95 rfl (lv_at hl 0 rfl) ?_
              refine lv_if_eq (tgt := 104) hx hb dX5_adjust_96 (by decide) (fun c_46 => ?_) (fun c_46 => ?_)
              · refine lv_iconst (v := 0) hx hb dX5_adjust_104 (by decide) ?_
                refine lv_iadd hx hb dX5_adjust_105 ?_
                refine lv_sipush (v := 255) hx hb dX5_adjust_106 (by decide) ?_
                refine lv_iand hx hb dX5_adjust_109 ?_
                refine pu_R_a2 hx hb hK hP hD hS (by unfold vp_in; decide) dX5_adjust_110 (fun H locs hP hD hS => ?_)
                refine lv_aload_n hx hb dX5_adjust_111 rfl (lv_at hl 3 rfl) ?_
                refine lv_aload_n hx hb dX5_adjust_112 rfl (lv_at hl 3 rfl) ?_
                refine va_get (ci := 5) (v := .ref (o 23)) (C := RX5) (T := TX5) (N := 24) hx hb hts hi5 hown hK hP 0 rfl rfl 3 (by decide) (hts (.fieldLink RX5 16 "InvaderBoardModel" "reg" "[I") (List.mem_cons_of_mem _ (List.mem_append_left _ (List.mem_of_getElem? (i := 0) rfl)))) (fun _ h9 => h9) rfl dX5_adjust_113 ?_
                refine lv_bipush (v := 7) hx hb dX5_adjust_116 (by decide) ?_
                refine va_iald (f := upd (a 2) (7 : Int32).toNatClampNeg (((((a 2) (7 : Int32).toNatClampNeg) + (6 : Int32)) + (0 : Int32)) &&& (255 : Int32))) hx hb hK hP 3 0 rfl rfl (by unfold vp_in; decide) dX5_adjust_118 ?_
                refine KC.callv (ci := 5) (rest := []) (wt := wR cI o (rSigns (upd (upd f 14 (0 : Int32)) 16 (0 : Int32)) (ua a 2 (upd (a 2) (7 : Int32).toNatClampNeg (((((a 2) (7 : Int32).toNatClampNeg) + (6 : Int32)) + (0 : Int32)) &&& (255 : Int32)))) ((upd (a 2) (7 : Int32).toNatClampNeg (((((a 2) (7 : Int32).toNatClampNeg) + (6 : Int32)) + (0 : Int32)) &&& (255 : Int32))) (7 : Int32).toNatClampNeg)) (ua a 2 (upd (a 2) (7 : Int32).toNatClampNeg (((((a 2) (7 : Int32).toNatClampNeg) + (6 : Int32)) + (0 : Int32)) &&& (255 : Int32))))) (kX5_signs l D cI o (upd (upd f 14 (0 : Int32)) 16 (0 : Int32)) (ua a 2 (upd (a 2) (7 : Int32).toNatClampNeg (((((a 2) (7 : Int32).toNatClampNeg) + (6 : Int32)) + (0 : Int32)) &&& (255 : Int32)))) ((upd (a 2) (7 : Int32).toNatClampNeg (((((a 2) (7 : Int32).toNatClampNeg) + (6 : Int32)) + (0 : Int32)) &&& (255 : Int32))) (7 : Int32).toNatClampNeg)) (cwV 1 hts gX5_adjust_X5_signs rfl rfl rfl (by decide +kernel) ⟨Nat.le_of_ble_eq_true rfl, Nat.le_of_ble_eq_true rfl⟩) ⟨hx, hb, hml, hown, hts⟩ hK hP hD hS hA rfl rfl rfl [0, 1, 2, 3, 4, 5, 6] [] [0, 1, 2, 3, 4, 5, 6] (by decide) rfl (wr := []) rfl (by decide) (by decide) (by decide) rfl rfl hl.1 rfl (Nat.le_of_ble_eq_true rfl) dX5_adjust_119 ⟨Nat.zero_le _, Nat.zero_le _⟩ (fun H locs hP hD hS => ?_)
                have hF : rAdjust f a = (rSigns (upd (upd f 14 (0 : Int32)) 16 (0 : Int32)) (ua a 2 (upd (a 2) (7 : Int32).toNatClampNeg (((((a 2) (7 : Int32).toNatClampNeg) + (6 : Int32)) + (0 : Int32)) &&& (255 : Int32)))) ((upd (a 2) (7 : Int32).toNatClampNeg (((((a 2) (7 : Int32).toNatClampNeg) + (6 : Int32)) + (0 : Int32)) &&& (255 : Int32))) (7 : Int32).toNatClampNeg), ua a 2 (upd (a 2) (7 : Int32).toNatClampNeg (((((a 2) (7 : Int32).toNatClampNeg) + (6 : Int32)) + (0 : Int32)) &&& (255 : Int32)))) := by
                  unfold rAdjust
                  refine (if_neg c_1).trans ?_
                  refine (if_pos c_19).trans ?_
                  refine (if_neg c_37).trans ?_
                  refine (if_neg c_43).trans ?_
                  refine (if_pos c_44).trans ?_
                  rfl
                rw [hF]
                exact KC.retv hx hb hr hlocks hK hP hD hS dX5_adjust_122
              · exact absurd c_46 (by decide)
            · exact absurd c_45 (by decide)
          · refine lv_iconst (v := 1) hx hb dX5_adjust_65 (by decide) ?_
            refine lv_goto (tgt := 70) hx hb dX5_adjust_66 (by decide) ?_
            refine pu_R_f14 (v := (1 : Int32)) hx hb hts hi5 hown hK hP hD hS (hts (.fieldLink RX5 63 "InvaderBoardModel" "half" "I") (List.mem_cons_of_mem _ (List.mem_append_left _ (List.mem_of_getElem? (i := 1) rfl)))) dX5_adjust_70 (fun H locs hP hD hS => ?_)
            refine lv_aload_n hx hb dX5_adjust_73 rfl (lv_at hl 3 rfl) ?_
            refine lv_iload_n hx hb dX5_adjust_74 rfl (lv_at hl 0 rfl) ?_
            refine lv_if_eq (tgt := 82) hx hb dX5_adjust_75 (by decide) (fun c_47 => ?_) (fun c_47 => ?_)
            · refine lv_iconst (v := 0) hx hb dX5_adjust_82 (by decide) ?_
              refine pu_R_f16 (v := (0 : Int32)) hx hb hts hi5 hown hK hP hD hS (hts (.fieldLink RX5 66 "InvaderBoardModel" "carry" "I") (List.mem_cons_of_mem _ (List.mem_append_left _ (List.mem_of_getElem? (i := 2) rfl)))) dX5_adjust_83 (fun H locs hP hD hS => ?_)
              refine lv_aload_n hx hb dX5_adjust_86 rfl (lv_at hl 3 rfl) ?_
              refine va_get (ci := 5) (v := .ref (o 23)) (C := RX5) (T := TX5) (N := 24) hx hb hts hi5 hown hK hP 0 rfl rfl 3 (by decide) (hts (.fieldLink RX5 16 "InvaderBoardModel" "reg" "[I") (List.mem_cons_of_mem _ (List.mem_append_left _ (List.mem_of_getElem? (i := 0) rfl)))) (fun _ h9 => h9) rfl dX5_adjust_87 ?_
              refine lv_bipush (v := 7) hx hb dX5_adjust_90 (by decide) ?_
              refine lv_iload_n hx hb dX5_adjust_92 rfl (lv_at hl 2 rfl) ?_
              refine lv_iload_n hx hb dX5_adjust_93 rfl (lv_at hl 1 rfl) ?_
              refine lv_iadd hx hb dX5_adjust_94 ?_
              refine lv_iload_n hx hb dX5_adjust_95 rfl (lv_at hl 0 rfl) ?_
              refine lv_if_eq (tgt := 104) hx hb dX5_adjust_96 (by decide) (fun c_48 => ?_) (fun c_48 => ?_)
              · refine lv_iconst (v := 0) hx hb dX5_adjust_104 (by decide) ?_
                refine lv_iadd hx hb dX5_adjust_105 ?_
                refine lv_sipush (v := 255) hx hb dX5_adjust_106 (by decide) ?_
                refine lv_iand hx hb dX5_adjust_109 ?_
                refine pu_R_a2 hx hb hK hP hD hS (by unfold vp_in; decide) dX5_adjust_110 (fun H locs hP hD hS => ?_)
                refine lv_aload_n hx hb dX5_adjust_111 rfl (lv_at hl 3 rfl) ?_
                refine lv_aload_n hx hb dX5_adjust_112 rfl (lv_at hl 3 rfl) ?_
                refine va_get (ci := 5) (v := .ref (o 23)) (C := RX5) (T := TX5) (N := 24) hx hb hts hi5 hown hK hP 0 rfl rfl 3 (by decide) (hts (.fieldLink RX5 16 "InvaderBoardModel" "reg" "[I") (List.mem_cons_of_mem _ (List.mem_append_left _ (List.mem_of_getElem? (i := 0) rfl)))) (fun _ h9 => h9) rfl dX5_adjust_113 ?_
                refine lv_bipush (v := 7) hx hb dX5_adjust_116 (by decide) ?_
                refine va_iald (f := upd (a 2) (7 : Int32).toNatClampNeg (((((a 2) (7 : Int32).toNatClampNeg) + (6 : Int32)) + (0 : Int32)) &&& (255 : Int32))) hx hb hK hP 3 0 rfl rfl (by unfold vp_in; decide) dX5_adjust_118 ?_
                refine KC.callv (ci := 5) (rest := []) (wt := wR cI o (rSigns (upd (upd f 14 (1 : Int32)) 16 (0 : Int32)) (ua a 2 (upd (a 2) (7 : Int32).toNatClampNeg (((((a 2) (7 : Int32).toNatClampNeg) + (6 : Int32)) + (0 : Int32)) &&& (255 : Int32)))) ((upd (a 2) (7 : Int32).toNatClampNeg (((((a 2) (7 : Int32).toNatClampNeg) + (6 : Int32)) + (0 : Int32)) &&& (255 : Int32))) (7 : Int32).toNatClampNeg)) (ua a 2 (upd (a 2) (7 : Int32).toNatClampNeg (((((a 2) (7 : Int32).toNatClampNeg) + (6 : Int32)) + (0 : Int32)) &&& (255 : Int32))))) (kX5_signs l D cI o (upd (upd f 14 (1 : Int32)) 16 (0 : Int32)) (ua a 2 (upd (a 2) (7 : Int32).toNatClampNeg (((((a 2) (7 : Int32).toNatClampNeg) + (6 : Int32)) + (0 : Int32)) &&& (255 : Int32)))) ((upd (a 2) (7 : Int32).toNatClampNeg (((((a 2) (7 : Int32).toNatClampNeg) + (6 : Int32)) + (0 : Int32)) &&& (255 : Int32))) (7 : Int32).toNatClampNeg)) (cwV 1 hts gX5_adjust_X5_signs rfl rfl rfl (by decide +kernel) ⟨Nat.le_of_ble_eq_true rfl, Nat.le_of_ble_eq_true rfl⟩) ⟨hx, hb, hml, hown, hts⟩ hK hP hD hS hA rfl rfl rfl [0, 1, 2, 3, 4, 5, 6] [] [0, 1, 2, 3, 4, 5, 6] (by decide) rfl (wr := []) rfl (by decide) (by decide) (by decide) rfl rfl hl.1 rfl (Nat.le_of_ble_eq_true rfl) dX5_adjust_119 ⟨Nat.zero_le _, Nat.zero_le _⟩ (fun H locs hP hD hS => ?_)
                have hF : rAdjust f a = (rSigns (upd (upd f 14 (1 : Int32)) 16 (0 : Int32)) (ua a 2 (upd (a 2) (7 : Int32).toNatClampNeg (((((a 2) (7 : Int32).toNatClampNeg) + (6 : Int32)) + (0 : Int32)) &&& (255 : Int32)))) ((upd (a 2) (7 : Int32).toNatClampNeg (((((a 2) (7 : Int32).toNatClampNeg) + (6 : Int32)) + (0 : Int32)) &&& (255 : Int32))) (7 : Int32).toNatClampNeg), ua a 2 (upd (a 2) (7 : Int32).toNatClampNeg (((((a 2) (7 : Int32).toNatClampNeg) + (6 : Int32)) + (0 : Int32)) &&& (255 : Int32)))) := by
                  unfold rAdjust
                  refine (if_neg c_1).trans ?_
                  refine (if_pos c_19).trans ?_
                  refine (if_neg c_37).trans ?_
                  refine (if_neg c_43).trans ?_
                  refine (if_neg c_44).trans ?_
                  rfl
                rw [hF]
                exact KC.retv hx hb hr hlocks hK hP hD hS dX5_adjust_122
              · exact absurd c_48 (by decide)
            · exact absurd c_47 (by decide)
        · refine lv_iconst (v := 1) hx hb dX5_adjust_47 (by decide) ?_
          refine lv_goto (tgt := 52) hx hb dX5_adjust_48 (by decide) ?_
          refine lv_istore_n (lv' := [(3, .int _), (2, .int _), (1, .int _), (0, .ref _)]) hx hb dX5_adjust_52 rfl hl (by decide) rfl (fun ls hl => ?_)
          refine lv_aload_n hx hb dX5_adjust_53 rfl (lv_at hl 3 rfl) ?_
          refine lv_iload_n hx hb dX5_adjust_54 rfl (lv_at hl 2 rfl) ?_
          refine lv_bipush (v := 15) hx hb dX5_adjust_55 (by decide) ?_
          refine lv_iand hx hb dX5_adjust_57 ?_
          refine lv_iload_n hx hb dX5_adjust_58 rfl (lv_at hl 1 rfl) ?_
          refine lv_iadd hx hb dX5_adjust_59 ?_
          refine lv_bipush (v := 15) hx hb dX5_adjust_60 (by decide) ?_
          refine lv_icmp_le (tgt := 69) hx hb dX5_adjust_62 (by decide) (fun c_49 => ?_) (fun c_49 => ?_)
          · refine lv_iconst (v := 0) hx hb dX5_adjust_69 (by decide) ?_
            refine pu_R_f14 (v := (0 : Int32)) hx hb hts hi5 hown hK hP hD hS (hts (.fieldLink RX5 63 "InvaderBoardModel" "half" "I") (List.mem_cons_of_mem _ (List.mem_append_left _ (List.mem_of_getElem? (i := 1) rfl)))) dX5_adjust_70 (fun H locs hP hD hS => ?_)
            refine lv_aload_n hx hb dX5_adjust_73 rfl (lv_at hl 3 rfl) ?_
            refine lv_iload_n hx hb dX5_adjust_74 rfl (lv_at hl 0 rfl) ?_
            refine lv_if_eq (tgt := 82) hx hb dX5_adjust_75 (by decide) (fun c_50 => ?_) (fun c_50 => ?_)
            · exact absurd c_50 (by decide)
            · refine lv_iconst (v := 1) hx hb dX5_adjust_78 (by decide) ?_
              refine lv_goto (tgt := 83) hx hb dX5_adjust_79 (by decide) ?_
              refine pu_R_f16 (v := (1 : Int32)) hx hb hts hi5 hown hK hP hD hS (hts (.fieldLink RX5 66 "InvaderBoardModel" "carry" "I") (List.mem_cons_of_mem _ (List.mem_append_left _ (List.mem_of_getElem? (i := 2) rfl)))) dX5_adjust_83 (fun H locs hP hD hS => ?_)
              refine lv_aload_n hx hb dX5_adjust_86 rfl (lv_at hl 3 rfl) ?_
              refine va_get (ci := 5) (v := .ref (o 23)) (C := RX5) (T := TX5) (N := 24) hx hb hts hi5 hown hK hP 0 rfl rfl 3 (by decide) (hts (.fieldLink RX5 16 "InvaderBoardModel" "reg" "[I") (List.mem_cons_of_mem _ (List.mem_append_left _ (List.mem_of_getElem? (i := 0) rfl)))) (fun _ h9 => h9) rfl dX5_adjust_87 ?_
              refine lv_bipush (v := 7) hx hb dX5_adjust_90 (by decide) ?_
              refine lv_iload_n hx hb dX5_adjust_92 rfl (lv_at hl 2 rfl) ?_
              refine lv_iload_n hx hb dX5_adjust_93 rfl (lv_at hl 1 rfl) ?_
              refine lv_iadd hx hb dX5_adjust_94 ?_
              refine lv_iload_n hx hb dX5_adjust_95 rfl (lv_at hl 0 rfl) ?_
              refine lv_if_eq (tgt := 104) hx hb dX5_adjust_96 (by decide) (fun c_51 => ?_) (fun c_51 => ?_)
              · exact absurd c_51 (by decide)
              · refine lv_bipush (v := 96) hx hb dX5_adjust_99 (by decide) ?_
                refine lv_goto (tgt := 105) hx hb dX5_adjust_101 (by decide) ?_
                refine lv_iadd hx hb dX5_adjust_105 ?_
                refine lv_sipush (v := 255) hx hb dX5_adjust_106 (by decide) ?_
                refine lv_iand hx hb dX5_adjust_109 ?_
                refine pu_R_a2 hx hb hK hP hD hS (by unfold vp_in; decide) dX5_adjust_110 (fun H locs hP hD hS => ?_)
                refine lv_aload_n hx hb dX5_adjust_111 rfl (lv_at hl 3 rfl) ?_
                refine lv_aload_n hx hb dX5_adjust_112 rfl (lv_at hl 3 rfl) ?_
                refine va_get (ci := 5) (v := .ref (o 23)) (C := RX5) (T := TX5) (N := 24) hx hb hts hi5 hown hK hP 0 rfl rfl 3 (by decide) (hts (.fieldLink RX5 16 "InvaderBoardModel" "reg" "[I") (List.mem_cons_of_mem _ (List.mem_append_left _ (List.mem_of_getElem? (i := 0) rfl)))) (fun _ h9 => h9) rfl dX5_adjust_113 ?_
                refine lv_bipush (v := 7) hx hb dX5_adjust_116 (by decide) ?_
                refine va_iald (f := upd (a 2) (7 : Int32).toNatClampNeg (((((a 2) (7 : Int32).toNatClampNeg) + (6 : Int32)) + (96 : Int32)) &&& (255 : Int32))) hx hb hK hP 3 0 rfl rfl (by unfold vp_in; decide) dX5_adjust_118 ?_
                refine KC.callv (ci := 5) (rest := []) (wt := wR cI o (rSigns (upd (upd f 14 (0 : Int32)) 16 (1 : Int32)) (ua a 2 (upd (a 2) (7 : Int32).toNatClampNeg (((((a 2) (7 : Int32).toNatClampNeg) + (6 : Int32)) + (96 : Int32)) &&& (255 : Int32)))) ((upd (a 2) (7 : Int32).toNatClampNeg (((((a 2) (7 : Int32).toNatClampNeg) + (6 : Int32)) + (96 : Int32)) &&& (255 : Int32))) (7 : Int32).toNatClampNeg)) (ua a 2 (upd (a 2) (7 : Int32).toNatClampNeg (((((a 2) (7 : Int32).toNatClampNeg) + (6 : Int32)) + (96 : Int32)) &&& (255 : Int32))))) (kX5_signs l D cI o (upd (upd f 14 (0 : Int32)) 16 (1 : Int32)) (ua a 2 (upd (a 2) (7 : Int32).toNatClampNeg (((((a 2) (7 : Int32).toNatClampNeg) + (6 : Int32)) + (96 : Int32)) &&& (255 : Int32)))) ((upd (a 2) (7 : Int32).toNatClampNeg (((((a 2) (7 : Int32).toNatClampNeg) + (6 : Int32)) + (96 : Int32)) &&& (255 : Int32))) (7 : Int32).toNatClampNeg)) (cwV 1 hts gX5_adjust_X5_signs rfl rfl rfl (by decide +kernel) ⟨Nat.le_of_ble_eq_true rfl, Nat.le_of_ble_eq_true rfl⟩) ⟨hx, hb, hml, hown, hts⟩ hK hP hD hS hA rfl rfl rfl [0, 1, 2, 3, 4, 5, 6] [] [0, 1, 2, 3, 4, 5, 6] (by decide) rfl (wr := []) rfl (by decide) (by decide) (by decide) rfl rfl hl.1 rfl (Nat.le_of_ble_eq_true rfl) dX5_adjust_119 ⟨Nat.zero_le _, Nat.zero_le _⟩ (fun H locs hP hD hS => ?_)
                have hF : rAdjust f a = (rSigns (upd (upd f 14 (0 : Int32)) 16 (1 : Int32)) (ua a 2 (upd (a 2) (7 : Int32).toNatClampNeg (((((a 2) (7 : Int32).toNatClampNeg) + (6 : Int32)) + (96 : Int32)) &&& (255 : Int32)))) ((upd (a 2) (7 : Int32).toNatClampNeg (((((a 2) (7 : Int32).toNatClampNeg) + (6 : Int32)) + (96 : Int32)) &&& (255 : Int32))) (7 : Int32).toNatClampNeg), ua a 2 (upd (a 2) (7 : Int32).toNatClampNeg (((((a 2) (7 : Int32).toNatClampNeg) + (6 : Int32)) + (96 : Int32)) &&& (255 : Int32)))) := by
                  unfold rAdjust
                  refine (if_neg c_1).trans ?_
                  refine (if_pos c_19).trans ?_
                  refine (if_neg c_37).trans ?_
                  refine (if_pos c_43).trans ?_
                  refine (if_pos c_49).trans ?_
                  rfl
                rw [hF]
                exact KC.retv hx hb hr hlocks hK hP hD hS dX5_adjust_122
          · refine lv_iconst (v := 1) hx hb dX5_adjust_65 (by decide) ?_
            refine lv_goto (tgt := 70) hx hb dX5_adjust_66 (by decide) ?_
            refine pu_R_f14 (v := (1 : Int32)) hx hb hts hi5 hown hK hP hD hS (hts (.fieldLink RX5 63 "InvaderBoardModel" "half" "I") (List.mem_cons_of_mem _ (List.mem_append_left _ (List.mem_of_getElem? (i := 1) rfl)))) dX5_adjust_70 (fun H locs hP hD hS => ?_)
            refine lv_aload_n hx hb dX5_adjust_73 rfl (lv_at hl 3 rfl) ?_
            refine lv_iload_n hx hb dX5_adjust_74 rfl (lv_at hl 0 rfl) ?_
            refine lv_if_eq (tgt := 82) hx hb dX5_adjust_75 (by decide) (fun c_52 => ?_) (fun c_52 => ?_)
            · exact absurd c_52 (by decide)
            · refine lv_iconst (v := 1) hx hb dX5_adjust_78 (by decide) ?_
              refine lv_goto (tgt := 83) hx hb dX5_adjust_79 (by decide) ?_
              refine pu_R_f16 (v := (1 : Int32)) hx hb hts hi5 hown hK hP hD hS (hts (.fieldLink RX5 66 "InvaderBoardModel" "carry" "I") (List.mem_cons_of_mem _ (List.mem_append_left _ (List.mem_of_getElem? (i := 2) rfl)))) dX5_adjust_83 (fun H locs hP hD hS => ?_)
              refine lv_aload_n hx hb dX5_adjust_86 rfl (lv_at hl 3 rfl) ?_
              refine va_get (ci := 5) (v := .ref (o 23)) (C := RX5) (T := TX5) (N := 24) hx hb hts hi5 hown hK hP 0 rfl rfl 3 (by decide) (hts (.fieldLink RX5 16 "InvaderBoardModel" "reg" "[I") (List.mem_cons_of_mem _ (List.mem_append_left _ (List.mem_of_getElem? (i := 0) rfl)))) (fun _ h9 => h9) rfl dX5_adjust_87 ?_
              refine lv_bipush (v := 7) hx hb dX5_adjust_90 (by decide) ?_
              refine lv_iload_n hx hb dX5_adjust_92 rfl (lv_at hl 2 rfl) ?_
              refine lv_iload_n hx hb dX5_adjust_93 rfl (lv_at hl 1 rfl) ?_
              refine lv_iadd hx hb dX5_adjust_94 ?_
              refine lv_iload_n hx hb dX5_adjust_95 rfl (lv_at hl 0 rfl) ?_
              refine lv_if_eq (tgt := 104) hx hb dX5_adjust_96 (by decide) (fun c_53 => ?_) (fun c_53 => ?_)
              · exact absurd c_53 (by decide)
              · refine lv_bipush (v := 96) hx hb dX5_adjust_99 (by decide) ?_
                refine lv_goto (tgt := 105) hx hb dX5_adjust_101 (by decide) ?_
                refine lv_iadd hx hb dX5_adjust_105 ?_
                refine lv_sipush (v := 255) hx hb dX5_adjust_106 (by decide) ?_
                refine lv_iand hx hb dX5_adjust_109 ?_
                refine pu_R_a2 hx hb hK hP hD hS (by unfold vp_in; decide) dX5_adjust_110 (fun H locs hP hD hS => ?_)
                refine lv_aload_n hx hb dX5_adjust_111 rfl (lv_at hl 3 rfl) ?_
                refine lv_aload_n hx hb dX5_adjust_112 rfl (lv_at hl 3 rfl) ?_
                refine va_get (ci := 5) (v := .ref (o 23)) (C := RX5) (T := TX5) (N := 24) hx hb hts hi5 hown hK hP 0 rfl rfl 3 (by decide) (hts (.fieldLink RX5 16 "InvaderBoardModel" "reg" "[I") (List.mem_cons_of_mem _ (List.mem_append_left _ (List.mem_of_getElem? (i := 0) rfl)))) (fun _ h9 => h9) rfl dX5_adjust_113 ?_
                refine lv_bipush (v := 7) hx hb dX5_adjust_116 (by decide) ?_
                refine va_iald (f := upd (a 2) (7 : Int32).toNatClampNeg (((((a 2) (7 : Int32).toNatClampNeg) + (6 : Int32)) + (96 : Int32)) &&& (255 : Int32))) hx hb hK hP 3 0 rfl rfl (by unfold vp_in; decide) dX5_adjust_118 ?_
                refine KC.callv (ci := 5) (rest := []) (wt := wR cI o (rSigns (upd (upd f 14 (1 : Int32)) 16 (1 : Int32)) (ua a 2 (upd (a 2) (7 : Int32).toNatClampNeg (((((a 2) (7 : Int32).toNatClampNeg) + (6 : Int32)) + (96 : Int32)) &&& (255 : Int32)))) ((upd (a 2) (7 : Int32).toNatClampNeg (((((a 2) (7 : Int32).toNatClampNeg) + (6 : Int32)) + (96 : Int32)) &&& (255 : Int32))) (7 : Int32).toNatClampNeg)) (ua a 2 (upd (a 2) (7 : Int32).toNatClampNeg (((((a 2) (7 : Int32).toNatClampNeg) + (6 : Int32)) + (96 : Int32)) &&& (255 : Int32))))) (kX5_signs l D cI o (upd (upd f 14 (1 : Int32)) 16 (1 : Int32)) (ua a 2 (upd (a 2) (7 : Int32).toNatClampNeg (((((a 2) (7 : Int32).toNatClampNeg) + (6 : Int32)) + (96 : Int32)) &&& (255 : Int32)))) ((upd (a 2) (7 : Int32).toNatClampNeg (((((a 2) (7 : Int32).toNatClampNeg) + (6 : Int32)) + (96 : Int32)) &&& (255 : Int32))) (7 : Int32).toNatClampNeg)) (cwV 1 hts gX5_adjust_X5_signs rfl rfl rfl (by decide +kernel) ⟨Nat.le_of_ble_eq_true rfl, Nat.le_of_ble_eq_true rfl⟩) ⟨hx, hb, hml, hown, hts⟩ hK hP hD hS hA rfl rfl rfl [0, 1, 2, 3, 4, 5, 6] [] [0, 1, 2, 3, 4, 5, 6] (by decide) rfl (wr := []) rfl (by decide) (by decide) (by decide) rfl rfl hl.1 rfl (Nat.le_of_ble_eq_true rfl) dX5_adjust_119 ⟨Nat.zero_le _, Nat.zero_le _⟩ (fun H locs hP hD hS => ?_)
                have hF : rAdjust f a = (rSigns (upd (upd f 14 (1 : Int32)) 16 (1 : Int32)) (ua a 2 (upd (a 2) (7 : Int32).toNatClampNeg (((((a 2) (7 : Int32).toNatClampNeg) + (6 : Int32)) + (96 : Int32)) &&& (255 : Int32)))) ((upd (a 2) (7 : Int32).toNatClampNeg (((((a 2) (7 : Int32).toNatClampNeg) + (6 : Int32)) + (96 : Int32)) &&& (255 : Int32))) (7 : Int32).toNatClampNeg), ua a 2 (upd (a 2) (7 : Int32).toNatClampNeg (((((a 2) (7 : Int32).toNatClampNeg) + (6 : Int32)) + (96 : Int32)) &&& (255 : Int32)))) := by
                  unfold rAdjust
                  refine (if_neg c_1).trans ?_
                  refine (if_pos c_19).trans ?_
                  refine (if_neg c_37).trans ?_
                  refine (if_pos c_43).trans ?_
                  refine (if_neg c_49).trans ?_
                  rfl
                rw [hF]
                exact KC.retv hx hb hr hlocks hK hP hD hS dX5_adjust_122
