def rOut (f : Nat → Int32) (a : Nat → Nat → Int32) (p1 : Int32) (p2 : Int32) : (Nat → Int32) × (Nat → Nat → Int32) :=
  if p1 = (2 : Int32) then (upd f 6 (p2 &&& (7 : Int32)), a)
  else if p1 = (3 : Int32) then (f, ua (ua a 5 (rEdges a p2 (0 : Int32) 8 0 (a 5))) 4 (upd (a 4) (0 : Int32).toNatClampNeg p2))
    else if p1 = (5 : Int32) then (f, ua (ua a 5 (rEdges a p2 (1 : Int32) 8 0 (a 5))) 4 (upd (a 4) (1 : Int32).toNatClampNeg p2))
      else if p1 = (4 : Int32) then (upd f 5 ((p2 <<< ((8 : Int32) &&& 31)) ||| ((f 5) >>> ((8 : Int32) &&& 31))), a)
        else if p1 = (6 : Int32) then (upd f 7 (0 : Int32), a)
          else (f, a)
set_option maxHeartbeats 4000000 in
set_option maxRecDepth 100000 in
theorem kX5_out (l : Launch) (D : va_G) (cI : ClassId) (o : Nat → Nat) (f : Nat → Int32) (a : Nat → Nat → Int32) (p1 : Int32) (p2 : Int32) : KC l yX5_out wsX5_out 0 [.ref (o 20), .int p1, .int p2] D cI (wR cI o f a) (wR cI o ((rOut f a p1 p2).1) ((rOut f a p1 p2).2)) none := by
  refine KC.of (cc := cX5_out) (maxL := 5) (by decide) rfl (Nat.le_of_ble_eq_true rfl) ?_
  intro p e s m below meth c A hx hb hr hts hown hlocks hml hK hP hD hS hA ls hl
  have hl : lv_has ls 5 [(0, .ref (o 20)), (1, .int p1), (2, .int p2)] := hl
  have hown : s.vm.findClass RX5 = some m.cls := hown
  have hi5 : ∀ w ∈ u_ws RX5 TX5 24, w ∈ wsX5_out := fun w h => List.mem_cons_of_mem _ (List.mem_append_right _ h)
  refine lv_iload_n hx hb dX5_out_0 rfl (lv_at hl 1 rfl) ?_
  refine lv_iconst (v := 2) hx hb dX5_out_1 (by decide) ?_
  refine lv_icmp_ne (tgt := 16) hx hb dX5_out_2 (by decide) (fun c_1 => ?_) (fun c_1 => ?_)
  · refine lv_iload_n hx hb dX5_out_16 rfl (lv_at hl 1 rfl) ?_
    refine lv_iconst (v := 3) hx hb dX5_out_17 (by decide) ?_
    refine lv_icmp_eq (tgt := 26) hx hb dX5_out_18 (by decide) (fun c_2 => ?_) (fun c_2 => ?_)
    · refine lv_iload_n hx hb dX5_out_26 rfl (lv_at hl 1 rfl) ?_
      refine lv_iconst (v := 3) hx hb dX5_out_27 (by decide) ?_
      refine lv_icmp_ne (tgt := 35) hx hb dX5_out_28 (by decide) (fun c_3 => ?_) (fun c_3 => ?_)
      · exact absurd c_2 c_3
      · refine lv_iconst (v := 0) hx hb dX5_out_31 (by decide) ?_
        refine lv_goto (tgt := 36) hx hb dX5_out_32 (by decide) ?_
        refine lv_istore_n (lv' := [(3, .int _), (0, .ref _), (1, .int _), (2, .int _)]) hx hb dX5_out_36 rfl hl (by decide) rfl (fun ls hl => ?_)
        refine lv_iconst (v := 0) hx hb dX5_out_37 (by decide) ?_
        refine lv_istore (lv' := [(4, .int _), (3, .int _), (0, .ref _), (1, .int _), (2, .int _)]) hx hb dX5_out_38 hl (by decide) rfl (fun ls hl => ?_)
        have hF : rOut f a p1 p2 = (f, ua (ua a 5 (rEdges a p2 (0 : Int32) 8 0 (a 5))) 4 (upd (a 4) (0 : Int32).toNatClampNeg p2)) := by
          unfold rOut
          refine (if_neg c_1).trans ?_
          refine (if_pos c_2).trans ?_
          rfl
        rw [hF]
        exact lpX5_out hx hb hr hts hown hlocks hml hK hA (by unfold vp_in; decide) 8 0 (by omega) (a 5) _ _ (show va_P D vwCl (wR cI o f (ua a 5 (a 5))) _ from hP) (show va_D A (wR cI o f (ua a 5 (a 5))) from hD) hS ls (lv_sub hl [0, 1, 2, 3, 4] rfl)
    · refine lv_iload_n hx hb dX5_out_21 rfl (lv_at hl 1 rfl) ?_
      refine lv_iconst (v := 5) hx hb dX5_out_22 (by decide) ?_
      refine lv_icmp_ne (tgt := 96) hx hb dX5_out_23 (by decide) (fun c_4 => ?_) (fun c_4 => ?_)
      · refine lv_iload_n hx hb dX5_out_96 rfl (lv_at hl 1 rfl) ?_
        refine lv_iconst (v := 4) hx hb dX5_out_97 (by decide) ?_
        refine lv_icmp_ne (tgt := 120) hx hb dX5_out_98 (by decide) (fun c_5 => ?_) (fun c_5 => ?_)
        · refine lv_iload_n hx hb dX5_out_120 rfl (lv_at hl 1 rfl) ?_
          refine lv_bipush (v := 6) hx hb dX5_out_121 (by decide) ?_
          refine lv_icmp_ne (tgt := 131) hx hb dX5_out_123 (by decide) (fun c_6 => ?_) (fun c_6 => ?_)
          · have hF : rOut f a p1 p2 = (f, a) := by
              unfold rOut
              refine (if_neg c_1).trans ?_
              refine (if_neg c_2).trans ?_
              refine (if_neg c_4).trans ?_
              refine (if_neg c_5).trans ?_
              refine (if_neg c_6).trans ?_
              rfl
            rw [hF]
            exact KC.retv hx hb hr hlocks hK hP hD hS dX5_out_131
          · refine lv_aload_n hx hb dX5_out_126 rfl (lv_at hl 0 rfl) ?_
            refine lv_iconst (v := 0) hx hb dX5_out_127 (by decide) ?_
            refine pu_R_f7 (v := (0 : Int32)) hx hb hts hi5 hown hK hP hD hS (hts (.fieldLink RX5 163 "InvaderBoardModel" "hunger" "I") (List.mem_cons_of_mem _ (List.mem_append_left _ (List.mem_of_getElem? (i := 4) rfl)))) dX5_out_128 (fun H locs hP hD hS => ?_)
            have hF : rOut f a p1 p2 = (upd f 7 (0 : Int32), a) := by
              unfold rOut
              refine (if_neg c_1).trans ?_
              refine (if_neg c_2).trans ?_
              refine (if_neg c_4).trans ?_
              refine (if_neg c_5).trans ?_
              refine (if_pos c_6).trans ?_
              rfl
            rw [hF]
            exact KC.retv hx hb hr hlocks hK hP hD hS dX5_out_131
        · refine lv_aload_n hx hb dX5_out_101 rfl (lv_at hl 0 rfl) ?_
          refine lv_iload_n hx hb dX5_out_102 rfl (lv_at hl 2 rfl) ?_
          refine lv_bipush (v := 8) hx hb dX5_out_103 (by decide) ?_
          refine lv_ishl hx hb dX5_out_105 ?_
          refine lv_aload_n hx hb dX5_out_106 rfl (lv_at hl 0 rfl) ?_
          refine va_get (ci := 5) (v := .int (f 5)) (C := RX5) (T := TX5) (N := 24) hx hb hts hi5 hown hK hP 0 rfl rfl 17 (by decide) (hts (.fieldLink RX5 157 "InvaderBoardModel" "shifter" "I") (List.mem_cons_of_mem _ (List.mem_append_left _ (List.mem_of_getElem? (i := 3) rfl)))) (fun _ h9 => h9) rfl dX5_out_107 ?_
          refine lv_bipush (v := 8) hx hb dX5_out_110 (by decide) ?_
          refine lv_ishr hx hb dX5_out_112 ?_
          refine lv_ior hx hb dX5_out_113 ?_
          refine pu_R_f5 (v := (p2 <<< ((8 : Int32) &&& 31)) ||| ((f 5) >>> ((8 : Int32) &&& 31))) hx hb hts hi5 hown hK hP hD hS (hts (.fieldLink RX5 157 "InvaderBoardModel" "shifter" "I") (List.mem_cons_of_mem _ (List.mem_append_left _ (List.mem_of_getElem? (i := 3) rfl)))) dX5_out_114 (fun H locs hP hD hS => ?_)
          refine lv_goto (tgt := 131) hx hb dX5_out_117 (by decide) ?_
          have hF : rOut f a p1 p2 = (upd f 5 ((p2 <<< ((8 : Int32) &&& 31)) ||| ((f 5) >>> ((8 : Int32) &&& 31))), a) := by
            unfold rOut
            refine (if_neg c_1).trans ?_
            refine (if_neg c_2).trans ?_
            refine (if_neg c_4).trans ?_
            refine (if_pos c_5).trans ?_
            rfl
          rw [hF]
          exact KC.retv hx hb hr hlocks hK hP hD hS dX5_out_131
      · refine lv_iload_n hx hb dX5_out_26 rfl (lv_at hl 1 rfl) ?_
        refine lv_iconst (v := 3) hx hb dX5_out_27 (by decide) ?_
        refine lv_icmp_ne (tgt := 35) hx hb dX5_out_28 (by decide) (fun c_7 => ?_) (fun c_7 => ?_)
        · refine lv_iconst (v := 1) hx hb dX5_out_35 (by decide) ?_
          refine lv_istore_n (lv' := [(3, .int _), (0, .ref _), (1, .int _), (2, .int _)]) hx hb dX5_out_36 rfl hl (by decide) rfl (fun ls hl => ?_)
          refine lv_iconst (v := 0) hx hb dX5_out_37 (by decide) ?_
          refine lv_istore (lv' := [(4, .int _), (3, .int _), (0, .ref _), (1, .int _), (2, .int _)]) hx hb dX5_out_38 hl (by decide) rfl (fun ls hl => ?_)
          have hF : rOut f a p1 p2 = (f, ua (ua a 5 (rEdges a p2 (1 : Int32) 8 0 (a 5))) 4 (upd (a 4) (1 : Int32).toNatClampNeg p2)) := by
            unfold rOut
            refine (if_neg c_1).trans ?_
            refine (if_neg c_2).trans ?_
            refine (if_pos c_4).trans ?_
            rfl
          rw [hF]
          exact lpX5_out hx hb hr hts hown hlocks hml hK hA (by unfold vp_in; decide) 8 0 (by omega) (a 5) _ _ (show va_P D vwCl (wR cI o f (ua a 5 (a 5))) _ from hP) (show va_D A (wR cI o f (ua a 5 (a 5))) from hD) hS ls (lv_sub hl [0, 1, 2, 3, 4] rfl)
        · exact absurd c_7 c_2
  · refine lv_aload_n hx hb dX5_out_5 rfl (lv_at hl 0 rfl) ?_
    refine lv_iload_n hx hb dX5_out_6 rfl (lv_at hl 2 rfl) ?_
    refine lv_bipush (v := 7) hx hb dX5_out_7 (by decide) ?_
    refine lv_iand hx hb dX5_out_9 ?_
    refine pu_R_f6 (v := p2 &&& (7 : Int32)) hx hb hts hi5 hown hK hP hD hS (hts (.fieldLink RX5 160 "InvaderBoardModel" "offset" "I") (List.mem_cons_of_mem _ (List.mem_append_left _ (List.mem_of_getElem? (i := 0) rfl)))) dX5_out_10 (fun H locs hP hD hS => ?_)
    refine lv_goto (tgt := 131) hx hb dX5_out_13 (by decide) ?_
    have hF : rOut f a p1 p2 = (upd f 6 (p2 &&& (7 : Int32)), a) := by
      unfold rOut
      refine (if_pos c_1).trans ?_
      rfl
    rw [hF]
    exact KC.retv hx hb hr hlocks hK hP hD hS dX5_out_131
