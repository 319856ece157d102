def rAlu (f : Nat → Int32) (a : Nat → Nat → Int32) (p1 : Int32) (p2 : Int32) : (Nat → Int32) × (Nat → Nat → Int32) :=
  if p1 = (1 : Int32) then if (((((a 2) (7 : Int32).toNatClampNeg) &&& (15 : Int32)) + (p2 &&& (15 : Int32))) + (f 16)) ≤ (15 : Int32) then if ((((a 2) (7 : Int32).toNatClampNeg) + p2) + (f 16)) ≤ (255 : Int32) then (rSigns (upd (upd f 14 (0 : Int32)) 16 (0 : Int32)) a (((((a 2) (7 : Int32).toNatClampNeg) + p2) + (f 16)) &&& (255 : Int32)), ua a 2 (upd (a 2) (7 : Int32).toNatClampNeg (((((a 2) (7 : Int32).toNatClampNeg) + p2) + (f 16)) &&& (255 : Int32))))
      else (rSigns (upd (upd f 14 (0 : Int32)) 16 (1 : Int32)) a (((((a 2) (7 : Int32).toNatClampNeg) + p2) + (f 16)) &&& (255 : Int32)), ua a 2 (upd (a 2) (7 : Int32).toNatClampNeg (((((a 2) (7 : Int32).toNatClampNeg) + p2) + (f 16)) &&& (255 : Int32))))
    else if ((((a 2) (7 : Int32).toNatClampNeg) + p2) + (f 16)) ≤ (255 : Int32) then (rSigns (upd (upd f 14 (1 : Int32)) 16 (0 : Int32)) a (((((a 2) (7 : Int32).toNatClampNeg) + p2) + (f 16)) &&& (255 : Int32)), ua a 2 (upd (a 2) (7 : Int32).toNatClampNeg (((((a 2) (7 : Int32).toNatClampNeg) + p2) + (f 16)) &&& (255 : Int32))))
      else (rSigns (upd (upd f 14 (1 : Int32)) 16 (1 : Int32)) a (((((a 2) (7 : Int32).toNatClampNeg) + p2) + (f 16)) &&& (255 : Int32)), ua a 2 (upd (a 2) (7 : Int32).toNatClampNeg (((((a 2) (7 : Int32).toNatClampNeg) + p2) + (f 16)) &&& (255 : Int32))))
  else if p1 = (3 : Int32) then if ((((((a 2) (7 : Int32).toNatClampNeg) &&& (15 : Int32)) + ((p2 ^^^ (-1 : Int32)) &&& (15 : Int32))) + (1 : Int32)) - (f 16)) ≤ (15 : Int32) then if 0 ≤ ((((a 2) (7 : Int32).toNatClampNeg) - p2) - (f 16)) then (rSigns (upd (upd f 14 (0 : Int32)) 16 (0 : Int32)) a (((((a 2) (7 : Int32).toNatClampNeg) - p2) - (f 16)) &&& (255 : Int32)), ua a 2 (upd (a 2) (7 : Int32).toNatClampNeg (((((a 2) (7 : Int32).toNatClampNeg) - p2) - (f 16)) &&& (255 : Int32))))
        else (rSigns (upd (upd f 14 (0 : Int32)) 16 (1 : Int32)) a (((((a 2) (7 : Int32).toNatClampNeg) - p2) - (f 16)) &&& (255 : Int32)), ua a 2 (upd (a 2) (7 : Int32).toNatClampNeg (((((a 2) (7 : Int32).toNatClampNeg) - p2) - (f 16)) &&& (255 : Int32))))
      else if 0 ≤ ((((a 2) (7 : Int32).toNatClampNeg) - p2) - (f 16)) then (rSigns (upd (upd f 14 (1 : Int32)) 16 (0 : Int32)) a (((((a 2) (7 : Int32).toNatClampNeg) - p2) - (f 16)) &&& (255 : Int32)), ua a 2 (upd (a 2) (7 : Int32).toNatClampNeg (((((a 2) (7 : Int32).toNatClampNeg) - p2) - (f 16)) &&& (255 : Int32))))
        else (rSigns (upd (upd f 14 (1 : Int32)) 16 (1 : Int32)) a (((((a 2) (7 : Int32).toNatClampNeg) - p2) - (f 16)) &&& (255 : Int32)), ua a 2 (upd (a 2) (7 : Int32).toNatClampNeg (((((a 2) (7 : Int32).toNatClampNeg) - p2) - (f 16)) &&& (255 : Int32))))
    else if (2 : Int32) ≤ p1 then if p1 = (2 : Int32) then if ((((((a 2) (7 : Int32).toNatClampNeg) &&& (15 : Int32)) + ((p2 ^^^ (-1 : Int32)) &&& (15 : Int32))) + (1 : Int32)) - (0 : Int32)) ≤ (15 : Int32) then if 0 ≤ ((((a 2) (7 : Int32).toNatClampNeg) - p2) - (0 : Int32)) then (rSigns (upd (upd f 14 (0 : Int32)) 16 (0 : Int32)) a (((((a 2) (7 : Int32).toNatClampNeg) - p2) - (0 : Int32)) &&& (255 : Int32)), ua a 2 (upd (a 2) (7 : Int32).toNatClampNeg (((((a 2) (7 : Int32).toNatClampNeg) - p2) - (0 : Int32)) &&& (255 : Int32))))
            else (rSigns (upd (upd f 14 (0 : Int32)) 16 (1 : Int32)) a (((((a 2) (7 : Int32).toNatClampNeg) - p2) - (0 : Int32)) &&& (255 : Int32)), ua a 2 (upd (a 2) (7 : Int32).toNatClampNeg (((((a 2) (7 : Int32).toNatClampNeg) - p2) - (0 : Int32)) &&& (255 : Int32))))
          else if 0 ≤ ((((a 2) (7 : Int32).toNatClampNeg) - p2) - (0 : Int32)) then (rSigns (upd (upd f 14 (1 : Int32)) 16 (0 : Int32)) a (((((a 2) (7 : Int32).toNatClampNeg) - p2) - (0 : Int32)) &&& (255 : Int32)), ua a 2 (upd (a 2) (7 : Int32).toNatClampNeg (((((a 2) (7 : Int32).toNatClampNeg) - p2) - (0 : Int32)) &&& (255 : Int32))))
            else (rSigns (upd (upd f 14 (1 : Int32)) 16 (1 : Int32)) a (((((a 2) (7 : Int32).toNatClampNeg) - p2) - (0 : Int32)) &&& (255 : Int32)), ua a 2 (upd (a 2) (7 : Int32).toNatClampNeg (((((a 2) (7 : Int32).toNatClampNeg) - p2) - (0 : Int32)) &&& (255 : Int32))))
        else if p1 = (7 : Int32) then if ((((((a 2) (7 : Int32).toNatClampNeg) &&& (15 : Int32)) + ((p2 ^^^ (-1 : Int32)) &&& (15 : Int32))) + (1 : Int32)) - (0 : Int32)) ≤ (15 : Int32) then if 0 ≤ ((((a 2) (7 : Int32).toNatClampNeg) - p2) - (0 : Int32)) then (rSigns (upd (upd f 14 (0 : Int32)) 16 (0 : Int32)) a (((((a 2) (7 : Int32).toNatClampNeg) - p2) - (0 : Int32)) &&& (255 : Int32)), a)
              else (rSigns (upd (upd f 14 (0 : Int32)) 16 (1 : Int32)) a (((((a 2) (7 : Int32).toNatClampNeg) - p2) - (0 : Int32)) &&& (255 : Int32)), a)
            else if 0 ≤ ((((a 2) (7 : Int32).toNatClampNeg) - p2) - (0 : Int32)) then (rSigns (upd (upd f 14 (1 : Int32)) 16 (0 : Int32)) a (((((a 2) (7 : Int32).toNatClampNeg) - p2) - (0 : Int32)) &&& (255 : Int32)), a)
              else (rSigns (upd (upd f 14 (1 : Int32)) 16 (1 : Int32)) a (((((a 2) (7 : Int32).toNatClampNeg) - p2) - (0 : Int32)) &&& (255 : Int32)), a)
          else if p1 = (4 : Int32) then (rSigns (upd (upd f 14 (((((a 2) (7 : Int32).toNatClampNeg) ||| p2) >>> ((3 : Int32) &&& 31)) &&& (1 : Int32))) 16 (0 : Int32)) a ((((a 2) (7 : Int32).toNatClampNeg) &&& p2) &&& (255 : Int32)), ua a 2 (upd (a 2) (7 : Int32).toNatClampNeg ((((a 2) (7 : Int32).toNatClampNeg) &&& p2) &&& (255 : Int32))))
            else if p1 = (5 : Int32) then (rSigns (upd (upd f 14 (0 : Int32)) 16 (0 : Int32)) a ((((a 2) (7 : Int32).toNatClampNeg) ^^^ p2) &&& (255 : Int32)), ua a 2 (upd (a 2) (7 : Int32).toNatClampNeg ((((a 2) (7 : Int32).toNatClampNeg) ^^^ p2) &&& (255 : Int32))))
              else if (7 : Int32) ≤ p1 then (rSigns (upd (upd f 14 (0 : Int32)) 16 (0 : Int32)) a ((((a 2) (7 : Int32).toNatClampNeg) ||| p2) &&& (255 : Int32)), a)
                else (rSigns (upd (upd f 14 (0 : Int32)) 16 (0 : Int32)) a ((((a 2) (7 : Int32).toNatClampNeg) ||| p2) &&& (255 : Int32)), ua a 2 (upd (a 2) (7 : Int32).toNatClampNeg ((((a 2) (7 : Int32).toNatClampNeg) ||| p2) &&& (255 : Int32))))
      else if (((((a 2) (7 : Int32).toNatClampNeg) &&& (15 : Int32)) + (p2 &&& (15 : Int32))) + (0 : Int32)) ≤ (15 : Int32) then if ((((a 2) (7 : Int32).toNatClampNeg) + p2) + (0 : Int32)) ≤ (255 : Int32) then if (7 : Int32) ≤ p1 then (rSigns (upd (upd f 14 (0 : Int32)) 16 (0 : Int32)) a (((((a 2) (7 : Int32).toNatClampNeg) + p2) + (0 : Int32)) &&& (255 : Int32)), a)
            else (rSigns (upd (upd f 14 (0 : Int32)) 16 (0 : Int32)) a (((((a 2) (7 : Int32).toNatClampNeg) + p2) + (0 : Int32)) &&& (255 : Int32)), ua a 2 (upd (a 2) (7 : Int32).toNatClampNeg (((((a 2) (7 : Int32).toNatClampNeg) + p2) + (0 : Int32)) &&& (255 : Int32))))
          else if (7 : Int32) ≤ p1 then (rSigns (upd (upd f 14 (0 : Int32)) 16 (1 : Int32)) a (((((a 2) (7 : Int32).toNatClampNeg) + p2) + (0 : Int32)) &&& (255 : Int32)), a)
            else (rSigns (upd (upd f 14 (0 : Int32)) 16 (1 : Int32)) a (((((a 2) (7 : Int32).toNatClampNeg) + p2) + (0 : Int32)) &&& (255 : Int32)), ua a 2 (upd (a 2) (7 : Int32).toNatClampNeg (((((a 2) (7 : Int32).toNatClampNeg) + p2) + (0 : Int32)) &&& (255 : Int32))))
        else if ((((a 2) (7 : Int32).toNatClampNeg) + p2) + (0 : Int32)) ≤ (255 : Int32) then if (7 : Int32) ≤ p1 then (rSigns (upd (upd f 14 (1 : Int32)) 16 (0 : Int32)) a (((((a 2) (7 : Int32).toNatClampNeg) + p2) + (0 : Int32)) &&& (255 : Int32)), a)
            else (rSigns (upd (upd f 14 (1 : Int32)) 16 (0 : Int32)) a (((((a 2) (7 : Int32).toNatClampNeg) + p2) + (0 : Int32)) &&& (255 : Int32)), ua a 2 (upd (a 2) (7 : Int32).toNatClampNeg (((((a 2) (7 : Int32).toNatClampNeg) + p2) + (0 : Int32)) &&& (255 : Int32))))
          else if (7 : Int32) ≤ p1 then (rSigns (upd (upd f 14 (1 : Int32)) 16 (1 : Int32)) a (((((a 2) (7 : Int32).toNatClampNeg) + p2) + (0 : Int32)) &&& (255 : Int32)), a)
            else (rSigns (upd (upd f 14 (1 : Int32)) 16 (1 : Int32)) a (((((a 2) (7 : Int32).toNatClampNeg) + p2) + (0 : Int32)) &&& (255 : Int32)), ua a 2 (upd (a 2) (7 : Int32).toNatClampNeg (((((a 2) (7 : Int32).toNatClampNeg) + p2) + (0 : Int32)) &&& (255 : Int32))))
set_option maxHeartbeats 4000000 in
set_option maxRecDepth 100000 in
theorem kX5_alu (l : Launch) (D : va_G) (cI : ClassId) (o : Nat → Nat) (f : Nat → Int32) (a : Nat → Nat → Int32) (p1 : Int32) (p2 : Int32) : KC l yX5_alu wsX5_alu 1 [.ref (o 20), .int p1, .int p2] D cI (wR cI o f a) (wR cI o ((rAlu f a p1 p2).1) ((rAlu f a p1 p2).2)) none := by
  refine KC.of (cc := cX5_alu) (maxL := 6) (by decide) rfl (Nat.le_of_ble_eq_true rfl) ?_
  intro p e s m below meth c A hx hb hr hts hown hlocks hml hK hP hD hS hA ls hl
  have hl : lv_has ls 6 [(0, .ref (o 20)), (1, .int p1), (2, .int p2)] := hl
  have hown : s.vm.findClass RX5 = some m.cls := hown
  have hi5 : ∀ w ∈ u_ws RX5 TX5 24, w ∈ wsX5_alu := fun w h => List.mem_cons_of_mem _ (List.mem_append_right _ h)
  refine lv_aload_n hx hb dX5_alu_0 rfl (lv_at hl 0 rfl) ?_
  refine va_get (ci := 5) (v := .ref (o 23)) (C := RX5) (T := TX5) (N := 24) hx hb hts hi5 hown hK hP 0 rfl rfl 3 (by decide) (hts (.fieldLink RX5 16 "InvaderBoardModel" "reg" "[I") (List.mem_cons_of_mem _ (List.mem_append_left _ (List.mem_of_getElem? (i := 0) rfl)))) (fun _ h9 => h9) rfl dX5_alu_1 ?_
  refine lv_bipush (v := 7) hx hb dX5_alu_4 (by decide) ?_
  refine va_iald (f := a 2) hx hb hK hP 3 0 rfl rfl (by unfold vp_in; decide) dX5_alu_6 ?_
  refine lv_istore_n (lv' := [(3, .int _), (0, .ref _), (1, .int _), (2, .int _)]) hx hb dX5_alu_7 rfl hl (by decide) rfl (fun ls hl => ?_)
  refine lv_iload_n hx hb dX5_alu_8 rfl (lv_at hl 2 rfl) ?_
  refine lv_iconst (v := 1) hx hb dX5_alu_9 (by decide) ?_
  refine lv_icmp_eq (tgt := 18) hx hb dX5_alu_10 (by decide) (fun c_1 => ?_) (fun c_1 => ?_)
  · refine lv_aload_n hx hb dX5_alu_18 rfl (lv_at hl 1 rfl) ?_
    refine va_get (ci := 5) (v := .int (f 16)) (C := RX5) (T := TX5) (N := 24) hx hb hts hi5 hown hK hP 0 rfl rfl 10 (by decide) (hts (.fieldLink RX5 66 "InvaderBoardModel" "carry" "I") (List.mem_cons_of_mem _ (List.mem_append_left _ (List.mem_of_getElem? (i := 1) rfl)))) (fun _ h9 => h9) rfl dX5_alu_19 ?_
    refine lv_goto (tgt := 26) hx hb dX5_alu_22 (by decide) ?_
    refine lv_istore (lv' := [(4, .int _), (3, .int _), (0, .ref _), (1, .int _), (2, .int _)]) hx hb dX5_alu_26 hl (by decide) rfl (fun ls hl => ?_)
    refine lv_iload_n hx hb dX5_alu_28 rfl (lv_at hl 1 rfl) ?_
    refine lv_istore (lv' := [(5, .int _), (4, .int _), (3, .int _), (0, .ref _), (1, .int _), (2, .int _)]) hx hb dX5_alu_29 hl (by decide) rfl (fun ls hl => ?_)
    refine lv_iload_n hx hb dX5_alu_31 rfl (lv_at hl 4 rfl) ?_
    refine lv_iconst (v := 2) hx hb dX5_alu_32 (by decide) ?_
    refine lv_icmp_ge (tgt := 90) hx hb dX5_alu_33 (by decide) (fun c_2 => ?_) (fun c_2 => ?_)
    · exact absurd c_2 (by rw [c_1]; decide)
    · refine lv_iload_n hx hb dX5_alu_36 rfl (lv_at hl 2 rfl) ?_
      refine lv_iload_n hx hb dX5_alu_37 rfl (lv_at hl 5 rfl) ?_
      refine lv_iadd hx hb dX5_alu_38 ?_
      refine lv_iload hx hb dX5_alu_39 (lv_at hl 1 rfl) ?_
      refine lv_iadd hx hb dX5_alu_41 ?_
      refine lv_istore (lv' := [(5, .int _), (4, .int _), (3, .int _), (0, .ref _), (1, .int _), (2, .int _)]) hx hb dX5_alu_42 hl (by decide) rfl (fun ls hl => ?_)
      refine lv_aload_n hx hb dX5_alu_44 rfl (lv_at hl 3 rfl) ?_
      refine lv_iload_n hx hb dX5_alu_45 rfl (lv_at hl 2 rfl) ?_
      refine lv_bipush (v := 15) hx hb dX5_alu_46 (by decide) ?_
      refine lv_iand hx hb dX5_alu_48 ?_
      refine lv_iload_n hx hb dX5_alu_49 rfl (lv_at hl 5 rfl) ?_
      refine lv_bipush (v := 15) hx hb dX5_alu_50 (by decide) ?_
      refine lv_iand hx hb dX5_alu_52 ?_
      refine lv_iadd hx hb dX5_alu_53 ?_
      refine lv_iload hx hb dX5_alu_54 (lv_at hl 1 rfl) ?_
      refine lv_iadd hx hb dX5_alu_56 ?_
      refine lv_bipush (v := 15) hx hb dX5_alu_57 (by decide) ?_
      refine lv_icmp_le (tgt := 66) hx hb dX5_alu_59 (by decide) (fun c_3 => ?_) (fun c_3 => ?_)
      · refine lv_iconst (v := 0) hx hb dX5_alu_66 (by decide) ?_
        refine pu_R_f14 (v := (0 : Int32)) hx hb hts hi5 hown hK hP hD hS (hts (.fieldLink RX5 63 "InvaderBoardModel" "half" "I") (List.mem_cons_of_mem _ (List.mem_append_left _ (List.mem_of_getElem? (i := 2) rfl)))) dX5_alu_67 (fun H locs hP hD hS => ?_)
        refine lv_aload_n hx hb dX5_alu_70 rfl (lv_at hl 3 rfl) ?_
        refine lv_iload hx hb dX5_alu_71 (lv_at hl 0 rfl) ?_
        refine lv_sipush (v := 255) hx hb dX5_alu_73 (by decide) ?_
        refine lv_icmp_le (tgt := 83) hx hb dX5_alu_76 (by decide) (fun c_4 => ?_) (fun c_4 => ?_)
        · refine lv_iconst (v := 0) hx hb dX5_alu_83 (by decide) ?_
          refine pu_R_f16 (v := (0 : Int32)) hx hb hts hi5 hown hK hP hD hS (hts (.fieldLink RX5 66 "InvaderBoardModel" "carry" "I") (List.mem_cons_of_mem _ (List.mem_append_left _ (List.mem_of_getElem? (i := 1) rfl)))) dX5_alu_84 (fun H locs hP hD hS => ?_)
          refine lv_goto (tgt := 213) hx hb dX5_alu_87 (by decide) ?_
          refine lv_aload_n hx hb dX5_alu_213 rfl (lv_at hl 3 rfl) ?_
          refine lv_iload hx hb dX5_alu_214 (lv_at hl 0 rfl) ?_
          refine lv_sipush (v := 255) hx hb dX5_alu_216 (by decide) ?_
          refine lv_iand hx hb dX5_alu_219 ?_
          refine KC.callv (ci := 5) (rest := []) (wt := wR cI o (rSigns (upd (upd f 14 (0 : Int32)) 16 (0 : Int32)) a (((((a 2) (7 : Int32).toNatClampNeg) + p2) + (f 16)) &&& (255 : Int32))) a) (kX5_signs l D cI o (upd (upd f 14 (0 : Int32)) 16 (0 : Int32)) a (((((a 2) (7 : Int32).toNatClampNeg) + p2) + (f 16)) &&& (255 : Int32))) (cwV 1 hts gX5_alu_X5_signs rfl rfl rfl (by decide +kernel) ⟨Nat.le_of_ble_eq_true rfl, Nat.le_of_ble_eq_true rfl⟩) ⟨hx, hb, hml, hown, hts⟩ hK hP hD hS hA rfl rfl rfl [0, 1, 2, 3, 4, 5, 6] [] [0, 1, 2, 3, 4, 5, 6] (by decide) rfl (wr := []) rfl (by decide) (by decide) (by decide) rfl rfl hl.1 rfl (Nat.le_of_ble_eq_true rfl) dX5_alu_220 ⟨Nat.zero_le _, Nat.zero_le _⟩ (fun H locs hP hD hS => ?_)
          refine lv_iload_n hx hb dX5_alu_223 rfl (lv_at hl 4 rfl) ?_
          refine lv_bipush (v := 7) hx hb dX5_alu_224 (by decide) ?_
          refine lv_icmp_ge (tgt := 242) hx hb dX5_alu_226 (by decide) (fun c_5 => ?_) (fun c_5 => ?_)
          · exact absurd c_5 (by rw [c_1]; decide)
          · refine lv_aload_n hx hb dX5_alu_229 rfl (lv_at hl 3 rfl) ?_
            refine va_get (ci := 5) (v := .ref (o 23)) (C := RX5) (T := TX5) (N := 24) hx hb hts hi5 hown hK hP 0 rfl rfl 3 (by decide) (hts (.fieldLink RX5 16 "InvaderBoardModel" "reg" "[I") (List.mem_cons_of_mem _ (List.mem_append_left _ (List.mem_of_getElem? (i := 0) rfl)))) (fun _ h9 => h9) rfl dX5_alu_230 ?_
            refine lv_bipush (v := 7) hx hb dX5_alu_233 (by decide) ?_
            refine lv_iload hx hb dX5_alu_235 (lv_at hl 0 rfl) ?_
            refine lv_sipush (v := 255) hx hb dX5_alu_237 (by decide) ?_
            refine lv_iand hx hb dX5_alu_240 ?_
            refine pu_R_a2 hx hb hK hP hD hS (by unfold vp_in; decide) dX5_alu_241 (fun H locs hP hD hS => ?_)
            have hF : rAlu f a p1 p2 = (rSigns (upd (upd f 14 (0 : Int32)) 16 (0 : Int32)) a (((((a 2) (7 : Int32).toNatClampNeg) + p2) + (f 16)) &&& (255 : Int32)), ua a 2 (upd (a 2) (7 : Int32).toNatClampNeg (((((a 2) (7 : Int32).toNatClampNeg) + p2) + (f 16)) &&& (255 : Int32)))) := by
              unfold rAlu
              refine (if_pos c_1).trans ?_
              refine (if_pos c_3).trans ?_
              refine (if_pos c_4).trans ?_
              rfl
            rw [hF]
            exact KC.retv hx hb hr hlocks hK hP hD hS dX5_alu_242
        · refine lv_iconst (v := 1) hx hb dX5_alu_79 (by decide) ?_
          refine lv_goto (tgt := 84) hx hb dX5_alu_80 (by decide) ?_
          refine pu_R_f16 (v := (1 : Int32)) hx hb hts hi5 hown hK hP hD hS (hts (.fieldLink RX5 66 "InvaderBoardModel" "carry" "I") (List.mem_cons_of_mem _ (List.mem_append_left _ (List.mem_of_getElem? (i := 1) rfl)))) dX5_alu_84 (fun H locs hP hD hS => ?_)
          refine lv_goto (tgt := 213) hx hb dX5_alu_87 (by decide) ?_
          refine lv_aload_n hx hb dX5_alu_213 rfl (lv_at hl 3 rfl) ?_
          refine lv_iload hx hb dX5_alu_214 (lv_at hl 0 rfl) ?_
          refine lv_sipush (v := 255) hx hb dX5_alu_216 (by decide) ?_
          refine lv_iand hx hb dX5_alu_219 ?_
          refine KC.callv (ci := 5) (rest := []) (wt := wR cI o (rSigns (upd (upd f 14 (0 : Int32)) 16 (1 : Int32)) a (((((a 2) (7 : Int32).toNatClampNeg) + p2) + (f 16)) &&& (255 : Int32))) a) (kX5_signs l D cI o (upd (upd f 14 (0 : Int32)) 16 (1 : Int32)) a (((((a 2) (7 : Int32).toNatClampNeg) + p2) + (f 16)) &&& (255 : Int32))) (cwV 1 hts gX5_alu_X5_signs rfl rfl rfl (by decide +kernel) ⟨Nat.le_of_ble_eq_true rfl, Nat.le_of_ble_eq_true rfl⟩) ⟨hx, hb, hml, hown, hts⟩ hK hP hD hS hA rfl rfl rfl [0, 1, 2, 3, 4, 5, 6] [] [0, 1, 2, 3, 4, 5, 6] (by decide) rfl (wr := []) rfl (by decide) (by decide) (by decide) rfl rfl hl.1 rfl (Nat.le_of_ble_eq_true rfl) dX5_alu_220 ⟨Nat.zero_le _, Nat.zero_le _⟩ (fun H locs hP hD hS => ?_)
          refine lv_iload_n hx hb dX5_alu_223 rfl (lv_at hl 4 rfl) ?_
          refine lv_bipush (v := 7) hx hb dX5_alu_224 (by decide) ?_
          refine lv_icmp_ge (tgt := 242) hx hb dX5_alu_226 (by decide) (fun c_6 => ?_) (fun c_6 => ?_)
          · exact absurd c_6 (by rw [c_1]; decide)
          · refine lv_aload_n hx hb dX5_alu_229 rfl (lv_at hl 3 rfl) ?_
            refine va_get (ci := 5) (v := .ref (o 23)) (C := RX5) (T := TX5) (N := 24) hx hb hts hi5 hown hK hP 0 rfl rfl 3 (by decide) (hts (.fieldLink RX5 16 "InvaderBoardModel" "reg" "[I") (List.mem_cons_of_mem _ (List.mem_append_left _ (List.mem_of_getElem? (i := 0) rfl)))) (fun _ h9 => h9) rfl dX5_alu_230 ?_
            refine lv_bipush (v := 7) hx hb dX5_alu_233 (by decide) ?_
            refine lv_iload hx hb dX5_alu_235 (lv_at hl 0 rfl) ?_
            refine lv_sipush (v := 255) hx hb dX5_alu_237 (by decide) ?_
            refine lv_iand hx hb dX5_alu_240 ?_
            refine pu_R_a2 hx hb hK hP hD hS (by unfold vp_in; decide) dX5_alu_241 (fun H locs hP hD hS => ?_)
            have hF : rAlu f a p1 p2 = (rSigns (upd (upd f 14 (0 : Int32)) 16 (1 : Int32)) a (((((a 2) (7 : Int32).toNatClampNeg) + p2) + (f 16)) &&& (255 : Int32)), ua a 2 (upd (a 2) (7 : Int32).toNatClampNeg (((((a 2) (7 : Int32).toNatClampNeg) + p2) + (f 16)) &&& (255 : Int32)))) := by
              unfold rAlu
              refine (if_pos c_1).trans ?_
              refine (if_pos c_3).trans ?_
              refine (if_neg c_4).trans ?_
              rfl
            rw [hF]
            exact KC.retv hx hb hr hlocks hK hP hD hS dX5_alu_242
      · refine lv_iconst (v := 1) hx hb dX5_alu_62 (by decide) ?_
        refine lv_goto (tgt := 67) hx hb dX5_alu_63 (by decide) ?_
        refine pu_R_f14 (v := (1 : Int32)) hx hb hts hi5 hown hK hP hD hS (hts (.fieldLink RX5 63 "InvaderBoardModel" "half" "I") (List.mem_cons_of_mem _ (List.mem_append_left _ (List.mem_of_getElem? (i := 2) rfl)))) dX5_alu_67 (fun H locs hP hD hS => ?_)
        refine lv_aload_n hx hb dX5_alu_70 rfl (lv_at hl 3 rfl) ?_
        refine lv_iload hx hb dX5_alu_71 (lv_at hl 0 rfl) ?_
        refine lv_sipush (v := 255) hx hb dX5_alu_73 (by decide) ?_
        refine lv_icmp_le (tgt := 83) hx hb dX5_alu_76 (by decide) (fun c_7 => ?_) (fun c_7 => ?_)
        · refine lv_iconst (v := 0) hx hb dX5_alu_83 (by decide) ?_
          refine pu_R_f16 (v := (0 : Int32)) hx hb hts hi5 hown hK hP hD hS (hts (.fieldLink RX5 66 "InvaderBoardModel" "carry" "I") (List.mem_cons_of_mem _ (List.mem_append_left _ (List.mem_of_getElem? (i := 1) rfl)))) dX5_alu_84 (fun H locs hP hD hS => ?_)
          refine lv_goto (tgt := 213) hx hb dX5_alu_87 (by decide) ?_
          refine lv_aload_n hx hb dX5_alu_213 rfl (lv_at hl 3 rfl) ?_
          refine lv_iload hx hb dX5_alu_214 (lv_at hl 0 rfl) ?_
          refine lv_sipush (v := 255) hx hb dX5_alu_216 (by decide) ?_
          refine lv_iand hx hb dX5_alu_219 ?_
          refine KC.callv (ci := 5) (rest := []) (wt := wR cI o (rSigns (upd (upd f 14 (1 : Int32)) 16 (0 : Int32)) a (((((a 2) (7 : Int32).toNatClampNeg) + p2) + (f 16)) &&& (255 : Int32))) a) (kX5_signs l D cI o (upd (upd f 14 (1 : Int32)) 16 (0 : Int32)) a (((((a 2) (7 : Int32).toNatClampNeg) + p2) + (f 16)) &&& (255 : Int32))) (cwV 1 hts gX5_alu_X5_signs rfl rfl rfl (by decide +kernel) ⟨Nat.le_of_ble_eq_true rfl, Nat.le_of_ble_eq_true rfl⟩) ⟨hx, hb, hml, hown, hts⟩ hK hP hD hS hA rfl rfl rfl [0, 1, 2, 3, 4, 5, 6] [] [0, 1, 2, 3, 4, 5, 6] (by decide) rfl (wr := []) rfl (by decide) (by decide) (by decide) rfl rfl hl.1 rfl (Nat.le_of_ble_eq_true rfl) dX5_alu_220 ⟨Nat.zero_le _, Nat.zero_le _⟩ (fun H locs hP hD hS => ?_)
          refine lv_iload_n hx hb dX5_alu_223 rfl (lv_at hl 4 rfl) ?_
          refine lv_bipush (v := 7) hx hb dX5_alu_224 (by decide) ?_
          refine lv_icmp_ge (tgt := 242) hx hb dX5_alu_226 (by decide) (fun c_8 => ?_) (fun c_8 => ?_)
          · exact absurd c_8 (by rw [c_1]; decide)
          · refine lv_aload_n hx hb dX5_alu_229 rfl (lv_at hl 3 rfl) ?_
            refine va_get (ci := 5) (v := .ref (o 23)) (C := RX5) (T := TX5) (N := 24) hx hb hts hi5 hown hK hP 0 rfl rfl 3 (by decide) (hts (.fieldLink RX5 16 "InvaderBoardModel" "reg" "[I") (List.mem_cons_of_mem _ (List.mem_append_left _ (List.mem_of_getElem? (i := 0) rfl)))) (fun _ h9 => h9) rfl dX5_alu_230 ?_
            refine lv_bipush (v := 7) hx hb dX5_alu_233 (by decide) ?_
            refine lv_iload hx hb dX5_alu_235 (lv_at hl 0 rfl) ?_
            refine lv_sipush (v := 255) hx hb dX5_alu_237 (by decide) ?_
            refine lv_iand hx hb dX5_alu_240 ?_
            refine pu_R_a2 hx hb hK hP hD hS (by unfold vp_in; decide) dX5_alu_241 (fun H locs hP hD hS => ?_)
            have hF : rAlu f a p1 p2 = (rSigns (upd (upd f 14 (1 : Int32)) 16 (0 : Int32)) a (((((a 2) (7 : Int32).toNatClampNeg) + p2) + (f 16)) &&& (255 : Int32)), ua a 2 (upd (a 2) (7 : Int32).toNatClampNeg (((((a 2) (7 : Int32).toNatClampNeg) + p2) + (f 16)) &&& (255 : Int32)))) := by
              unfold rAlu
              refine (if_pos c_1).trans ?_
              refine (if_neg c_3).trans ?_
              refine (if_pos c_7).trans ?_
              rfl
            rw [hF]
            exact KC.retv hx hb hr hlocks hK hP hD hS dX5_alu_242
        · refine lv_iconst (v := 1) hx hb dX5_alu_79 (by decide) ?_
          refine lv_goto (tgt := 84) hx hb dX5_alu_80 (by decide) ?_
          refine pu_R_f16 (v := (1 : Int32)) hx hb hts hi5 hown hK hP hD hS (hts (.fieldLink RX5 66 "InvaderBoardModel" "carry" "I") (List.mem_cons_of_mem _ (List.mem_append_left _ (List.mem_of_getElem? (i := 1) rfl)))) dX5_alu_84 (fun H locs hP hD hS => ?_)
          refine lv_goto (tgt := 213) hx hb dX5_alu_87 (by decide) ?_
          refine lv_aload_n hx hb dX5_alu_213 rfl (lv_at hl 3 rfl) ?_
          refine lv_iload hx hb dX5_alu_214 (lv_at hl 0 rfl) ?_
          refine lv_sipush (v := 255) hx hb dX5_alu_216 (by decide) ?_
          refine lv_iand hx hb dX5_alu_219 ?_
          refine KC.callv (ci := 5) (rest := []) (wt := wR cI o (rSigns (upd (upd f 14 (1 : Int32)) 16 (1 : Int32)) a (((((a 2) (7 : Int32).toNatClampNeg) + p2) + (f 16)) &&& (255 : Int32))) a) (kX5_signs l D cI o (upd (upd f 14 (1 : Int32)) 16 (1 : Int32)) a (((((a 2) (7 : Int32).toNatClampNeg) + p2) + (f 16)) &&& (255 : Int32))) (cwV 1 hts gX5_alu_X5_signs rfl rfl rfl (by decide +kernel) ⟨Nat.le_of_ble_eq_true rfl, Nat.le_of_ble_eq_true rfl⟩) ⟨hx, hb, hml, hown, hts⟩ hK hP hD hS hA rfl rfl rfl [0, 1, 2, 3, 4, 5, 6] [] [0, 1, 2, 3, 4, 5, 6] (by decide) rfl (wr := []) rfl (by decide) (by decide) (by decide) rfl rfl hl.1 rfl (Nat.le_of_ble_eq_true rfl) dX5_alu_220 ⟨Nat.zero_le _, Nat.zero_le _⟩ (fun H locs hP hD hS => ?_)
          refine lv_iload_n hx hb dX5_alu_223 rfl (lv_at hl 4 rfl) ?_
          refine lv_bipush (v := 7) hx hb dX5_alu_224 (by decide) ?_
          refine lv_icmp_ge (tgt := 242) hx hb dX5_alu_226 (by decide) (fun c_9 => ?_) (fun c_9 => ?_)
          · exact absurd c_9 (by rw [c_1]; decide)
          · refine lv_aload_n hx hb dX5_alu_229 rfl (lv_at hl 3 rfl) ?_
            refine va_get (ci := 5) (v := .ref (o 23)) (C := RX5) (T := TX5) (N := 24) hx hb hts hi5 hown hK hP 0 rfl rfl 3 (by decide) (hts (.fieldLink RX5 16 "InvaderBoardModel" "reg" "[I") (List.mem_cons_of_mem _ (List.mem_append_left _ (List.mem_of_getElem? (i := 0) rfl)))) (fun _ h9 => h9) rfl dX5_alu_230 ?_
            refine lv_bipush (v := 7) hx hb dX5_alu_233 (by decide) ?_
            refine lv_iload hx hb dX5_alu_235 (lv_at hl 0 rfl) ?_
            refine lv_sipush (v := 255) hx hb dX5_alu_237 (by decide) ?_
            refine lv_iand hx hb dX5_alu_240 ?_
            refine pu_R_a2 hx hb hK hP hD hS (by unfold vp_in; decide) dX5_alu_241 (fun H locs hP hD hS => ?_)
            have hF : rAlu f a p1 p2 = (rSigns (upd (upd f 14 (1 : Int32)) 16 (1 : Int32)) a (((((a 2) (7 : Int32).toNatClampNeg) + p2) + (f 16)) &&& (255 : Int32)), ua a 2 (upd (a 2) (7 : Int32).toNatClampNeg (((((a 2) (7 : Int32).toNatClampNeg) + p2) + (f 16)) &&& (255 : Int32)))) := by
              unfold rAlu
              refine (if_pos c_1).trans ?_
              refine (if_neg c_3).trans ?_
              refine (if_neg c_7).trans ?_
              rfl
            rw [hF]
            exact KC.retv hx hb hr hlocks hK hP hD hS dX5_alu_242
  · refine lv_iload_n hx hb dX5_alu_13 rfl (lv_at hl 2 rfl) ?_
    refine lv_iconst (v := 3) hx hb dX5_alu_14 (by decide) ?_
    refine lv_icmp_ne (tgt := 25) hx hb dX5_alu_15 (by decide) (fun c_10 => ?_) (fun c_10 => ?_)
    · refine lv_iconst (v := 0) hx hb dX5_alu_25 (by decide) ?_
      refine lv_istore (lv' := [(4, .int _), (3, .int _), (0, .ref _), (1, .int _), (2, .int _)]) hx hb dX5_alu_26 hl (by decide) rfl (fun ls hl => ?_)
      refine lv_iload_n hx hb dX5_alu_28 rfl (lv_at hl 1 rfl) ?_
      refine lv_istore (lv' := [(5, .int _), (4, .int _), (3, .int _), (0, .ref _), (1, .int _), (2, .int _)]) hx hb dX5_alu_29 hl (by decide) rfl (fun ls hl => ?_)
      refine lv_iload_n hx hb dX5_alu_31 rfl (lv_at hl 4 rfl) ?_
      refine lv_iconst (v := 2) hx hb dX5_alu_32 (by decide) ?_
      refine lv_icmp_ge (tgt := 90) hx hb dX5_alu_33 (by decide) (fun c_11 => ?_) (fun c_11 => ?_)
      · refine lv_iload_n hx hb dX5_alu_90 rfl (lv_at hl 4 rfl) ?_
        refine lv_iconst (v := 2) hx hb dX5_alu_91 (by decide) ?_
        refine lv_icmp_eq (tgt := 106) hx hb dX5_alu_92 (by decide) (fun c_12 => ?_) (fun c_12 => ?_)
        · refine lv_iload_n hx hb dX5_alu_106 rfl (lv_at hl 2 rfl) ?_
          refine lv_iload_n hx hb dX5_alu_107 rfl (lv_at hl 5 rfl) ?_
          refine lv_isub hx hb dX5_alu_108 ?_
          refine lv_iload hx hb dX5_alu_109 (lv_at hl 1 rfl) ?_
          refine lv_isub hx hb dX5_alu_111 ?_
          refine lv_istore (lv' := [(5, .int _), (4, .int _), (3, .int _), (0, .ref _), (1, .int _), (2, .int _)]) hx hb dX5_alu_112 hl (by decide) rfl (fun ls hl => ?_)
          refine lv_aload_n hx hb dX5_alu_114 rfl (lv_at hl 3 rfl) ?_
          refine lv_iload_n hx hb dX5_alu_115 rfl (lv_at hl 2 rfl) ?_
          refine lv_bipush (v := 15) hx hb dX5_alu_116 (by decide) ?_
          refine lv_iand hx hb dX5_alu_118 ?_
          refine lv_iload_n hx hb dX5_alu_119 rfl (lv_at hl 5 rfl) ?_
          refine lv_iconst (v := -1) hx hb dX5_alu_120 (by decide) ?_
          refine lv_ixor hx hb dX5_alu_121 ?_
          refine lv_bipush (v := 15) hx hb dX5_alu_122 (by decide) ?_
          refine lv_iand hx hb dX5_alu_124 ?_
          refine lv_iadd hx hb dX5_alu_125 ?_
          refine lv_iconst (v := 1) hx hb dX5_alu_126 (by decide) ?_
          refine lv_iadd hx hb dX5_alu_127 ?_
          refine lv_iload hx hb dX5_alu_128 (lv_at hl 1 rfl) ?_
          refine lv_isub hx hb dX5_alu_130 ?_
          refine lv_bipush (v := 15) hx hb dX5_alu_131 (by decide) ?_
          refine lv_icmp_le (tgt := 140) hx hb dX5_alu_133 (by decide) (fun c_13 => ?_) (fun c_13 => ?_)
          · refine lv_iconst (v := 0) hx hb dX5_alu_140 (by decide) ?_
            refine pu_R_f14 (v := (0 : Int32)) hx hb hts hi5 hown hK hP hD hS (hts (.fieldLink RX5 63 "InvaderBoardModel" "half" "I") (List.mem_cons_of_mem _ (List.mem_append_left _ (List.mem_of_getElem? (i := 2) rfl)))) dX5_alu_141 (fun H locs hP hD hS => ?_)
            refine lv_aload_n hx hb dX5_alu_144 rfl (lv_at hl 3 rfl) ?_
            refine lv_iload hx hb dX5_alu_145 (lv_at hl 0 rfl) ?_
            refine lv_if_ge (tgt := 154) hx hb dX5_alu_147 (by decide) (fun c_14 => ?_) (fun c_14 => ?_)
            · refine lv_iconst (v := 0) hx hb dX5_alu_154 (by decide) ?_
              refine pu_R_f16 (v := (0 : Int32)) hx hb hts hi5 hown hK hP hD hS (hts (.fieldLink RX5 66 "InvaderBoardModel" "carry" "I") (List.mem_cons_of_mem _ (List.mem_append_left _ (List.mem_of_getElem? (i := 1) rfl)))) dX5_alu_155 (fun H locs hP hD hS => ?_)
              refine lv_goto (tgt := 213) hx hb dX5_alu_158 (by decide) ?_
              refine lv_aload_n hx hb dX5_alu_213 rfl (lv_at hl 3 rfl) ?_
              refine lv_iload hx hb dX5_alu_214 (lv_at hl 0 rfl) ?_
              refine lv_sipush (v := 255) hx hb dX5_alu_216 (by decide) ?_
              refine lv_iand hx hb dX5_alu_219 ?_
              refine KC.callv (ci := 5) (rest := []) (wt := wR cI o (rSigns (upd (upd f 14 (0 : Int32)) 16 (0 : Int32)) a (((((a 2) (7 : Int32).toNatClampNeg) - p2) - (0 : Int32)) &&& (255 : Int32))) a) (kX5_signs l D cI o (upd (upd f 14 (0 : Int32)) 16 (0 : Int32)) a (((((a 2) (7 : Int32).toNatClampNeg) - p2) - (0 : Int32)) &&& (255 : Int32))) (cwV 1 hts gX5_alu_X5_signs rfl rfl rfl (by decide +kernel) ⟨Nat.le_of_ble_eq_true rfl, Nat.le_of_ble_eq_true rfl⟩) ⟨hx, hb, hml, hown, hts⟩ hK hP hD hS hA rfl rfl rfl [0, 1, 2, 3, 4, 5, 6] [] [0, 1, 2, 3, 4, 5, 6] (by decide) rfl (wr := []) rfl (by decide) (by decide) (by decide) rfl rfl hl.1 rfl (Nat.le_of_ble_eq_true rfl) dX5_alu_220 ⟨Nat.zero_le _, Nat.zero_le _⟩ (fun H locs hP hD hS => ?_)
              refine lv_iload_n hx hb dX5_alu_223 rfl (lv_at hl 4 rfl) ?_
              refine lv_bipush (v := 7) hx hb dX5_alu_224 (by decide) ?_
              refine lv_icmp_ge (tgt := 242) hx hb dX5_alu_226 (by decide) (fun c_15 => ?_) (fun c_15 => ?_)
              · exact absurd c_15 (by rw [c_12]; decide)
              · refine lv_aload_n hx hb dX5_alu_229 rfl (lv_at hl 3 rfl) ?_
                refine va_get (ci := 5) (v := .ref (o 23)) (C := RX5) (T := TX5) (N := 24) hx hb hts hi5 hown hK hP 0 rfl rfl 3 (by decide) (hts (.fieldLink RX5 16 "InvaderBoardModel" "reg" "[I") (List.mem_cons_of_mem _ (List.mem_append_left _ (List.mem_of_getElem? (i := 0) rfl)))) (fun _ h9 => h9) rfl dX5_alu_230 ?_
                refine lv_bipush (v := 7) hx hb dX5_alu_233 (by decide) ?_
                refine lv_iload hx hb dX5_alu_235 (lv_at hl 0 rfl) ?_
                refine lv_sipush (v := 255) hx hb dX5_alu_237 (by decide) ?_
                refine lv_iand hx hb dX5_alu_240 ?_
                refine pu_R_a2 hx hb hK hP hD hS (by unfold vp_in; decide) dX5_alu_241 (fun H locs hP hD hS => ?_)
                have hF : rAlu f a p1 p2 = (rSigns (upd (upd f 14 (0 : Int32)) 16 (0 : Int32)) a (((((a 2) (7 : Int32).toNatClampNeg) - p2) - (0 : Int32)) &&& (255 : Int32)), ua a 2 (upd (a 2) (7 : Int32).toNatClampNeg (((((a 2) (7 : Int32).toNatClampNeg) - p2) - (0 : Int32)) &&& (255 : Int32)))) := by
                  unfold rAlu
                  refine (if_neg c_1).trans ?_
                  refine (if_neg c_10).trans ?_
                  refine (if_pos c_11).trans ?_
                  refine (if_pos c_12).trans ?_
                  refine (if_pos c_13).trans ?_
                  refine (if_pos c_14).trans ?_
                  rfl
                rw [hF]
                exact KC.retv hx hb hr hlocks hK hP hD hS dX5_alu_242
            · refine lv_iconst (v := 1) hx hb dX5_alu_150 (by decide) ?_
              refine lv_goto (tgt := 155) hx hb dX5_alu_151 (by decide) ?_
              refine pu_R_f16 (v := (1 : Int32)) hx hb hts hi5 hown hK hP hD hS (hts (.fieldLink RX5 66 "InvaderBoardModel" "carry" "I") (List.mem_cons_of_mem _ (List.mem_append_left _ (List.mem_of_getElem? (i := 1) rfl)))) dX5_alu_155 (fun H locs hP hD hS => ?_)
              refine lv_goto (tgt := 213) hx hb dX5_alu_158 (by decide) ?_
              refine lv_aload_n hx hb dX5_alu_213 rfl (lv_at hl 3 rfl) ?_
              refine lv_iload hx hb dX5_alu_214 (lv_at hl 0 rfl) ?_
              refine lv_sipush (v := 255) hx hb dX5_alu_216 (by decide) ?_
              refine lv_iand hx hb dX5_alu_219 ?_
              refine KC.callv (ci := 5) (rest := []) (wt := wR cI o (rSigns (upd (upd f 14 (0 : Int32)) 16 (1 : Int32)) a (((((a 2) (7 : Int32).toNatClampNeg) - p2) - (0 : Int32)) &&& (255 : Int32))) a) (kX5_signs l D cI o (upd (upd f 14 (0 : Int32)) 16 (1 : Int32)) a (((((a 2) (7 : Int32).toNatClampNeg) - p2) - (0 : Int32)) &&& (255 : Int32))) (cwV 1 hts gX5_alu_X5_signs rfl rfl rfl (by decide +kernel) ⟨Nat.le_of_ble_eq_true rfl, Nat.le_of_ble_eq_true rfl⟩) ⟨hx, hb, hml, hown, hts⟩ hK hP hD hS hA rfl rfl rfl [0, 1, 2, 3, 4, 5, 6] [] [0, 1, 2, 3, 4, 5, 6] (by decide) rfl (wr := []) rfl (by decide) (by decide) (by decide) rfl rfl hl.1 rfl (Nat.le_of_ble_eq_true rfl) dX5_alu_220 ⟨Nat.zero_le _, Nat.zero_le _⟩ (fun H locs hP hD hS => ?_)
              refine lv_iload_n hx hb dX5_alu_223 rfl (lv_at hl 4 rfl) ?_
              refine lv_bipush (v := 7) hx hb dX5_alu_224 (by decide) ?_
              refine lv_icmp_ge (tgt := 242) hx hb dX5_alu_226 (by decide) (fun c_16 => ?_) (fun c_16 => ?_)
              · exact absurd c_16 (by rw [c_12]; decide)
              · refine lv_aload_n hx hb dX5_alu_229 rfl (lv_at hl 3 rfl) ?_
                refine va_get (ci := 5) (v := .ref (o 23)) (C := RX5) (T := TX5) (N := 24) hx hb hts hi5 hown hK hP 0 rfl rfl 3 (by decide) (hts (.fieldLink RX5 16 "InvaderBoardModel" "reg" "[I") (List.mem_cons_of_mem _ (List.mem_append_left _ (List.mem_of_getElem? (i := 0) rfl)))) (fun _ h9 => h9) rfl dX5_alu_230 ?_
                refine lv_bipush (v := 7) hx hb dX5_alu_233 (by decide) ?_
                refine lv_iload hx hb dX5_alu_235 (lv_at hl 0 rfl) ?_
                refine lv_sipush (v := 255) hx hb dX5_alu_237 (by decide) ?_
                refine lv_iand hx hb dX5_alu_240 ?_
                refine pu_R_a2 hx hb hK hP hD hS (by unfold vp_in; decide) dX5_alu_241 (fun H locs hP hD hS => ?_)
                have hF : rAlu f a p1 p2 = (rSigns (upd (upd f 14 (0 : Int32)) 16 (1 : Int32)) a (((((a 2) (7 : Int32).toNatClampNeg) - p2) - (0 : Int32)) &&& (255 : Int32)), ua a 2 (upd (a 2) (7 : Int32).toNatClampNeg (((((a 2) (7 : Int32).toNatClampNeg) - p2) - (0 : Int32)) &&& (255 : Int32)))) := by
                  unfold rAlu
                  refine (if_neg c_1).trans ?_
                  refine (if_neg c_10).trans ?_
                  refine (if_pos c_11).trans ?_
                  refine (if_pos c_12).trans ?_
                  refine (if_pos c_13).trans ?_
                  refine (if_neg c_14).trans ?_
                  rfl
                rw [hF]
                exact KC.retv hx hb hr hlocks hK hP hD hS dX5_alu_242
          · refine lv_iconst (v := 1) hx hb dX5_alu_136 (by decide) ?_
            refine lv_goto (tgt := 141) hx hb dX5_alu_137 (by decide) ?_
            refine pu_R_f14 (v := (1 : Int32)) hx hb hts hi5 hown hK hP hD hS (hts (.fieldLink RX5 63 "InvaderBoardModel" "half" "I") (List.mem_cons_of_mem _ (List.mem_append_left _ (List.mem_of_getElem? (i := 2) rfl)))) dX5_alu_141 (fun H locs hP hD hS => ?_)
            refine lv_aload_n hx hb dX5_alu_144 rfl (lv_at hl 3 rfl) ?_
            refine lv_iload hx hb dX5_alu_145 (lv_at hl 0 rfl) ?_
            refine lv_if_ge (tgt := 154) hx hb dX5_alu_147 (by decide) (fun c_17 => ?_) (fun c_17 => ?_)
            · refine lv_iconst (v := 0) hx hb dX5_alu_154 (by decide) ?_
              refine pu_R_f16 (v := (0 : Int32)) hx hb hts hi5 hown hK hP hD hS (hts (.fieldLink RX5 66 "InvaderBoardModel" "carry" "I") (List.mem_cons_of_mem _ (List.mem_append_left _ (List.mem_of_getElem? (i := 1) rfl)))) dX5_alu_155 (fun H locs hP hD hS => ?_)
              refine lv_goto (tgt := 213) hx hb dX5_alu_158 (by decide) ?_
              refine lv_aload_n hx hb dX5_alu_213 rfl (lv_at hl 3 rfl) ?_
              refine lv_iload hx hb dX5_alu_214 (lv_at hl 0 rfl) ?_
              refine lv_sipush (v := 255) hx hb dX5_alu_216 (by decide) ?_
              refine lv_iand hx hb dX5_alu_219 ?_
              refine KC.callv (ci := 5) (rest := []) (wt := wR cI o (rSigns (upd (upd f 14 (1 : Int32)) 16 (0 : Int32)) a (((((a 2) (7 : Int32).toNatClampNeg) - p2) - (0 : Int32)) &&& (255 : Int32))) a) (kX5_signs l D cI o (upd (upd f 14 (1 : Int32)) 16 (0 : Int32)) a (((((a 2) (7 : Int32).toNatClampNeg) - p2) - (0 : Int32)) &&& (255 : Int32))) (cwV 1 hts gX5_alu_X5_signs rfl rfl rfl (by decide +kernel) ⟨Nat.le_of_ble_eq_true rfl, Nat.le_of_ble_eq_true rfl⟩) ⟨hx, hb, hml, hown, hts⟩ hK hP hD hS hA rfl rfl rfl [0, 1, 2, 3, 4, 5, 6] [] [0, 1, 2, 3, 4, 5, 6] (by decide) rfl (wr := []) rfl (by decide) (by decide) (by decide) rfl rfl hl.1 rfl (Nat.le_of_ble_eq_true rfl) dX5_alu_220 ⟨Nat.zero_le _, Nat.zero_le _⟩ (fun H locs hP hD hS => ?_)
              refine lv_iload_n hx hb dX5_alu_223 rfl (lv_at hl 4 rfl) ?_
              refine lv_bipush (v := 7) hx hb dX5_alu_224 (by decide) ?_
              refine lv_icmp_ge (tgt := 242) hx hb dX5_alu_226 (by decide) (fun c_18 => ?_) (fun c_18 => ?_)
              · exact absurd c_18 (by rw [c_12]; decide)
              · refine lv_aload_n hx hb dX5_alu_229 rfl (lv_at hl 3 rfl) ?_
                refine va_get (ci := 5) (v := .ref (o 23)) (C := RX5) (T := TX5) (N := 24) hx hb hts hi5 hown hK hP 0 rfl rfl 3 (by decide) (hts (.fieldLink RX5 16 "InvaderBoardModel" "reg" "[I") (List.mem_cons_of_mem _ (List.mem_append_left _ (List.mem_of_getElem? (i := 0) rfl)))) (fun _ h9 => h9) rfl dX5_alu_230 ?_
                refine lv_bipush (v := 7) hx hb dX5_alu_233 (by decide) ?_
                refine lv_iload hx hb dX5_alu_235 (lv_at hl 0 rfl) ?_
                refine lv_sipush (v := 255) hx hb dX5_alu_237 (by decide) ?_
                refine lv_iand hx hb dX5_alu_240 ?_
                refine pu_R_a2 hx hb hK hP hD hS (by unfold vp_in; decide) dX5_alu_241 (fun H locs hP hD hS => ?_)
                have hF : rAlu f a p1 p2 = (rSigns (upd (upd f 14 (1 : Int32)) 16 (0 : Int32)) a (((((a 2) (7 : Int32).toNatClampNeg) - p2) - (0 : Int32)) &&& (255 : Int32)), ua a 2 (upd (a 2) (7 : Int32).toNatClampNeg (((((a 2) (7 : Int32).toNatClampNeg) - p2) - (0 : Int32)) &&& (255 : Int32)))) := by
                  unfold rAlu
                  refine (if_neg c_1).trans ?_
                  refine (if_neg c_10).trans ?_
                  refine (if_pos c_11).trans ?_
                  refine (if_pos c_12).trans ?_
                  refine (if_neg c_13).trans ?_
                  refine (if_pos c_17).trans ?_
                  rfl
                rw [hF]
                exact KC.retv hx hb hr hlocks hK hP hD hS dX5_alu_242
            · refine lv_iconst (v := 1) hx hb dX5_alu_150 (by decide) ?_
              refine lv_goto (tgt := 155) hx hb dX5_alu_151 (by decide) ?_
              refine pu_R_f16 (v := (1 : Int32)) hx hb hts hi5 hown hK hP hD hS (hts (.fieldLink RX5 66 "InvaderBoardModel" "carry" "I") (List.mem_cons_of_mem _ (List.mem_append_left _ (List.mem_of_getElem? (i := 1) rfl)))) dX5_alu_155 (fun H locs hP hD hS => ?_)
              refine lv_goto (tgt := 213) hx hb dX5_alu_158 (by decide) ?_
              refine lv_aload_n hx hb dX5_alu_213 rfl (lv_at hl 3 rfl) ?_
              refine lv_iload hx hb dX5_alu_214 (lv_at hl 0 rfl) ?_
              refine lv_sipush (v := 255) hx hb dX5_alu_216 (by decide) ?_
              refine lv_iand hx hb dX5_alu_219 ?_
              refine KC.callv (ci := 5) (rest := []) (wt := wR cI o (rSigns (upd (upd f 14 (1 : Int32)) 16 (1 : Int32)) a (((((a 2) (7 : Int32).toNatClampNeg) - p2) - (0 : Int32)) &&& (255 : Int32))) a) (kX5_signs l D cI o (upd (upd f 14 (1 : Int32)) 16 (1 : Int32)) a (((((a 2) (7 : Int32).toNatClampNeg) - p2) - (0 : Int32)) &&& (255 : Int32))) (cwV 1 hts gX5_alu_X5_signs rfl rfl rfl (by decide +kernel) ⟨Nat.le_of_ble_eq_true rfl, Nat.le_of_ble_eq_true rfl⟩) ⟨hx, hb, hml, hown, hts⟩ hK hP hD hS hA rfl rfl rfl [0, 1, 2, 3, 4, 5, 6] [] [0, 1, 2, 3, 4, 5, 6] (by decide) rfl (wr := []) rfl (by decide) (by decide) (by decide) rfl rfl hl.1 rfl (Nat.le_of_ble_eq_true rfl) dX5_alu_220 ⟨Nat.zero_le _, Nat.zero_le _⟩ (fun H locs hP hD hS => ?_)
              refine lv_iload_n hx hb dX5_alu_223 rfl (lv_at hl 4 rfl) ?_
              refine lv_bipush (v := 7) hx hb dX5_alu_224 (by decide) ?_
              refine lv_icmp_ge (tgt := 242) hx hb dX5_alu_226 (by decide) (fun c_19 => ?_) (fun c_19 => ?_)
              · exact absurd c_19 (by rw [c_12]; decide)
              · refine lv_aload_n hx hb dX5_alu_229 rfl (lv_at hl 3 rfl) ?_
                refine va_get (ci := 5) (v := .ref (o 23)) (C := RX5) (T := TX5) (N := 24) hx hb hts hi5 hown hK hP 0 rfl rfl 3 (by decide) (hts (.fieldLink RX5 16 "InvaderBoardModel" "reg" "[I") (List.mem_cons_of_mem _ (List.mem_append_left _ (List.mem_of_getElem? (i := 0) rfl)))) (fun _ h9 => h9) rfl dX5_alu_230 ?_
                refine lv_bipush (v := 7) hx hb dX5_alu_233 (by decide) ?_
                refine lv_iload hx hb dX5_alu_235 (lv_at hl 0 rfl) ?_
                refine lv_sipush (v := 255) hx hb dX5_alu_237 (by decide) ?_
                refine lv_iand hx hb dX5_alu_240 ?_
                refine pu_R_a2 hx hb hK hP hD hS (by unfold vp_in; decide) dX5_alu_241 (fun H locs hP hD hS => ?_)
                have hF : rAlu f a p1 p2 = (rSigns (upd (upd f 14 (1 : Int32)) 16 (1 : Int32)) a (((((a 2) (7 : Int32).toNatClampNeg) - p2) - (0 : Int32)) &&& (255 : Int32)), ua a 2 (upd (a 2) (7 : Int32).toNatClampNeg (((((a 2) (7 : Int32).toNatClampNeg) - p2) - (0 : Int32)) &&& (255 : Int32)))) := by
                  unfold rAlu
                  refine (if_neg c_1).trans ?_
                  refine (if_neg c_10).trans ?_
                  refine (if_pos c_11).trans ?_
                  refine (if_pos c_12).trans ?_
                  refine (if_neg c_13).trans ?_
                  refine (if_neg c_17).trans ?_
                  rfl
                rw [hF]
                exact KC.retv hx hb hr hlocks hK hP hD hS dX5_alu_242
        · refine lv_iload_n hx hb dX5_alu_95 rfl (lv_at hl 4 rfl) ?_
          refine lv_iconst (v := 3) hx hb dX5_alu_96 (by decide) ?_
          refine lv_icmp_eq (tgt := 106) hx hb dX5_alu_97 (by decide) (fun c_20 => ?_) (fun c_20 => ?_)
          · exact absurd c_20 c_10
          · refine lv_iload_n hx hb dX5_alu_100 rfl (lv_at hl 4 rfl) ?_
            refine lv_bipush (v := 7) hx hb dX5_alu_101 (by decide) ?_
            refine lv_icmp_ne (tgt := 161) hx hb dX5_alu_103 (by decide) (fun c_21 => ?_) (fun c_21 => ?_)
            · refine lv_iload_n hx hb dX5_alu_161 rfl (lv_at hl 4 rfl) ?_
              refine lv_iconst (v := 4) hx hb dX5_alu_162 (by decide) ?_
              refine lv_icmp_ne (tgt := 172) hx hb dX5_alu_163 (by decide) (fun c_22 => ?_) (fun c_22 => ?_)
              · refine lv_iload_n hx hb dX5_alu_172 rfl (lv_at hl 4 rfl) ?_
                refine lv_iconst (v := 5) hx hb dX5_alu_173 (by decide) ?_
                refine lv_icmp_ne (tgt := 183) hx hb dX5_alu_174 (by decide) (fun c_23 => ?_) (fun c_23 => ?_)
                · refine lv_iload_n hx hb dX5_alu_183 rfl (lv_at hl 2 rfl) ?_
                  refine lv_iload_n hx hb dX5_alu_184 rfl (lv_at hl 5 rfl) ?_
                  refine lv_ior hx hb dX5_alu_185 ?_
                  refine lv_istore (lv' := [(5, .int _), (4, .int _), (3, .int _), (0, .ref _), (1, .int _), (2, .int _)]) hx hb dX5_alu_186 hl (by decide) rfl (fun ls hl => ?_)
                  refine lv_aload_n hx hb dX5_alu_188 rfl (lv_at hl 3 rfl) ?_
                  refine lv_iload_n hx hb dX5_alu_189 rfl (lv_at hl 4 rfl) ?_
                  refine lv_iconst (v := 4) hx hb dX5_alu_190 (by decide) ?_
                  refine lv_icmp_ne (tgt := 204) hx hb dX5_alu_191 (by decide) (fun c_24 => ?_) (fun c_24 => ?_)
                  · refine lv_iconst (v := 0) hx hb dX5_alu_204 (by decide) ?_
                    refine pu_R_f14 (v := (0 : Int32)) hx hb hts hi5 hown hK hP hD hS (hts (.fieldLink RX5 63 "InvaderBoardModel" "half" "I") (List.mem_cons_of_mem _ (List.mem_append_left _ (List.mem_of_getElem? (i := 2) rfl)))) dX5_alu_205 (fun H locs hP hD hS => ?_)
                    refine lv_aload_n hx hb dX5_alu_208 rfl (lv_at hl 3 rfl) ?_
                    refine lv_iconst (v := 0) hx hb dX5_alu_209 (by decide) ?_
                    refine pu_R_f16 (v := (0 : Int32)) hx hb hts hi5 hown hK hP hD hS (hts (.fieldLink RX5 66 "InvaderBoardModel" "carry" "I") (List.mem_cons_of_mem _ (List.mem_append_left _ (List.mem_of_getElem? (i := 1) rfl)))) dX5_alu_210 (fun H locs hP hD hS => ?_)
                    refine lv_aload_n hx hb dX5_alu_213 rfl (lv_at hl 3 rfl) ?_
                    refine lv_iload hx hb dX5_alu_214 (lv_at hl 0 rfl) ?_
                    refine lv_sipush (v := 255) hx hb dX5_alu_216 (by decide) ?_
                    refine lv_iand hx hb dX5_alu_219 ?_
                    refine KC.callv (ci := 5) (rest := []) (wt := wR cI o (rSigns (upd (upd f 14 (0 : Int32)) 16 (0 : Int32)) a ((((a 2) (7 : Int32).toNatClampNeg) ||| p2) &&& (255 : Int32))) a) (kX5_signs l D cI o (upd (upd f 14 (0 : Int32)) 16 (0 : Int32)) a ((((a 2) (7 : Int32).toNatClampNeg) ||| p2) &&& (255 : Int32))) (cwV 1 hts gX5_alu_X5_signs rfl rfl rfl (by decide +kernel) ⟨Nat.le_of_ble_eq_true rfl, Nat.le_of_ble_eq_true rfl⟩) ⟨hx, hb, hml, hown, hts⟩ hK hP hD hS hA rfl rfl rfl [0, 1, 2, 3, 4, 5, 6] [] [0, 1, 2, 3, 4, 5, 6] (by decide) rfl (wr := []) rfl (by decide) (by decide) (by decide) rfl rfl hl.1 rfl (Nat.le_of_ble_eq_true rfl) dX5_alu_220 ⟨Nat.zero_le _, Nat.zero_le _⟩ (fun H locs hP hD hS => ?_)
                    refine lv_iload_n hx hb dX5_alu_223 rfl (lv_at hl 4 rfl) ?_
                    refine lv_bipush (v := 7) hx hb dX5_alu_224 (by decide) ?_
                    refine lv_icmp_ge (tgt := 242) hx hb dX5_alu_226 (by decide) (fun c_25 => ?_) (fun c_25 => ?_)
                    · have hF : rAlu f a p1 p2 = (rSigns (upd (upd f 14 (0 : Int32)) 16 (0 : Int32)) a ((((a 2) (7 : Int32).toNatClampNeg) ||| p2) &&& (255 : Int32)), a) := by
                        unfold rAlu
                        refine (if_neg c_1).trans ?_
                        refine (if_neg c_10).trans ?_
                        refine (if_pos c_11).trans ?_
                        refine (if_neg c_12).trans ?_
                        refine (if_neg c_21).trans ?_
                        refine (if_neg c_22).trans ?_
                        refine (if_neg c_23).trans ?_
                        refine (if_pos c_25).trans ?_
                        rfl
                      rw [hF]
                      exact KC.retv hx hb hr hlocks hK hP hD hS dX5_alu_242
                    · refine lv_aload_n hx hb dX5_alu_229 rfl (lv_at hl 3 rfl) ?_
                      refine va_get (ci := 5) (v := .ref (o 23)) (C := RX5) (T := TX5) (N := 24) hx hb hts hi5 hown hK hP 0 rfl rfl 3 (by decide) (hts (.fieldLink RX5 16 "InvaderBoardModel" "reg" "[I") (List.mem_cons_of_mem _ (List.mem_append_left _ (List.mem_of_getElem? (i := 0) rfl)))) (fun _ h9 => h9) rfl dX5_alu_230 ?_
                      refine lv_bipush (v := 7) hx hb dX5_alu_233 (by decide) ?_
                      refine lv_iload hx hb dX5_alu_235 (lv_at hl 0 rfl) ?_
                      refine lv_sipush (v := 255) hx hb dX5_alu_237 (by decide) ?_
                      refine lv_iand hx hb dX5_alu_240 ?_
                      refine pu_R_a2 hx hb hK hP hD hS (by unfold vp_in; decide) dX5_alu_241 (fun H locs hP hD hS => ?_)
                      have hF : rAlu f a p1 p2 = (rSigns (upd (upd f 14 (0 : Int32)) 16 (0 : Int32)) a ((((a 2) (7 : Int32).toNatClampNeg) ||| p2) &&& (255 : Int32)), ua a 2 (upd (a 2) (7 : Int32).toNatClampNeg ((((a 2) (7 : Int32).toNatClampNeg) ||| p2) &&& (255 : Int32)))) := by
                        unfold rAlu
                        refine (if_neg c_1).trans ?_
                        refine (if_neg c_10).trans ?_
                        refine (if_pos c_11).trans ?_
                        refine (if_neg c_12).trans ?_
                        refine (if_neg c_21).trans ?_
                        refine (if_neg c_22).trans ?_
                        refine (if_neg c_23).trans ?_
                        refine (if_neg c_25).trans ?_
                        rfl
                      rw [hF]
                      exact KC.retv hx hb hr hlocks hK hP hD hS dX5_alu_242
                  · exact absurd c_24 c_22
                · refine lv_iload_n hx hb dX5_alu_177 rfl (lv_at hl 2 rfl) ?_
                  refine lv_iload_n hx hb dX5_alu_178 rfl (lv_at hl 5 rfl) ?_
                  refine lv_ixor hx hb dX5_alu_179 ?_
                  refine lv_goto (tgt := 186) hx hb dX5_alu_180 (by decide) ?_
                  refine lv_istore (lv' := [(5, .int _), (4, .int _), (3, .int _), (0, .ref _), (1, .int _), (2, .int _)]) hx hb dX5_alu_186 hl (by decide) rfl (fun ls hl => ?_)
                  refine lv_aload_n hx hb dX5_alu_188 rfl (lv_at hl 3 rfl) ?_
                  refine lv_iload_n hx hb dX5_alu_189 rfl (lv_at hl 4 rfl) ?_
                  refine lv_iconst (v := 4) hx hb dX5_alu_190 (by decide) ?_
                  refine lv_icmp_ne (tgt := 204) hx hb dX5_alu_191 (by decide) (fun c_26 => ?_) (fun c_26 => ?_)
                  · refine lv_iconst (v := 0) hx hb dX5_alu_204 (by decide) ?_
                    refine pu_R_f14 (v := (0 : Int32)) hx hb hts hi5 hown hK hP hD hS (hts (.fieldLink RX5 63 "InvaderBoardModel" "half" "I") (List.mem_cons_of_mem _ (List.mem_append_left _ (List.mem_of_getElem? (i := 2) rfl)))) dX5_alu_205 (fun H locs hP hD hS => ?_)
                    refine lv_aload_n hx hb dX5_alu_208 rfl (lv_at hl 3 rfl) ?_
                    refine lv_iconst (v := 0) hx hb dX5_alu_209 (by decide) ?_
                    refine pu_R_f16 (v := (0 : Int32)) hx hb hts hi5 hown hK hP hD hS (hts (.fieldLink RX5 66 "InvaderBoardModel" "carry" "I") (List.mem_cons_of_mem _ (List.mem_append_left _ (List.mem_of_getElem? (i := 1) rfl)))) dX5_alu_210 (fun H locs hP hD hS => ?_)
                    refine lv_aload_n hx hb dX5_alu_213 rfl (lv_at hl 3 rfl) ?_
                    refine lv_iload hx hb dX5_alu_214 (lv_at hl 0 rfl) ?_
                    refine lv_sipush (v := 255) hx hb dX5_alu_216 (by decide) ?_
                    refine lv_iand hx hb dX5_alu_219 ?_
                    refine KC.callv (ci := 5) (rest := []) (wt := wR cI o (rSigns (upd (upd f 14 (0 : Int32)) 16 (0 : Int32)) a ((((a 2) (7 : Int32).toNatClampNeg) ^^^ p2) &&& (255 : Int32))) a) (kX5_signs l D cI o (upd (upd f 14 (0 : Int32)) 16 (0 : Int32)) a ((((a 2) (7 : Int32).toNatClampNeg) ^^^ p2) &&& (255 : Int32))) (cwV 1 hts gX5_alu_X5_signs rfl rfl rfl (by decide +kernel) ⟨Nat.le_of_ble_eq_true rfl, Nat.le_of_ble_eq_true rfl⟩) ⟨hx, hb, hml, hown, hts⟩ hK hP hD hS hA rfl rfl rfl [0, 1, 2, 3, 4, 5, 6] [] [0, 1, 2, 3, 4, 5, 6] (by decide) rfl (wr := []) rfl (by decide) (by decide) (by decide) rfl rfl hl.1 rfl (Nat.le_of_ble_eq_true rfl) dX5_alu_220 ⟨Nat.zero_le _, Nat.zero_le _⟩ (fun H locs hP hD hS => ?_)
                    refine lv_iload_n hx hb dX5_alu_223 rfl (lv_at hl 4 rfl) ?_
                    refine lv_bipush (v := 7) hx hb dX5_alu_224 (by decide) ?_
                    refine lv_icmp_ge (tgt := 242) hx hb dX5_alu_226 (by decide) (fun c_27 => ?_) (fun c_27 => ?_)
                    · exact absurd c_27 (by rw [c_23]; decide)
                    · refine lv_aload_n hx hb dX5_alu_229 rfl (lv_at hl 3 rfl) ?_
                      refine va_get (ci := 5) (v := .ref (o 23)) (C := RX5) (T := TX5) (N := 24) hx hb hts hi5 hown hK hP 0 rfl rfl 3 (by decide) (hts (.fieldLink RX5 16 "InvaderBoardModel" "reg" "[I") (List.mem_cons_of_mem _ (List.mem_append_left _ (List.mem_of_getElem? (i := 0) rfl)))) (fun _ h9 => h9) rfl dX5_alu_230 ?_
                      refine lv_bipush (v := 7) hx hb dX5_alu_233 (by decide) ?_
                      refine lv_iload hx hb dX5_alu_235 (lv_at hl 0 rfl) ?_
                      refine lv_sipush (v := 255) hx hb dX5_alu_237 (by decide) ?_
                      refine lv_iand hx hb dX5_alu_240 ?_
                      refine pu_R_a2 hx hb hK hP hD hS (by unfold vp_in; decide) dX5_alu_241 (fun H locs hP hD hS => ?_)
                      have hF : rAlu f a p1 p2 = (rSigns (upd (upd f 14 (0 : Int32)) 16 (0 : Int32)) a ((((a 2) (7 : Int32).toNatClampNeg) ^^^ p2) &&& (255 : Int32)), ua a 2 (upd (a 2) (7 : Int32).toNatClampNeg ((((a 2) (7 : Int32).toNatClampNeg) ^^^ p2) &&& (255 : Int32)))) := by
                        unfold rAlu
                        refine (if_neg c_1).trans ?_
                        refine (if_neg c_10).trans ?_
                        refine (if_pos c_11).trans ?_
                        refine (if_neg c_12).trans ?_
                        refine (if_neg c_21).trans ?_
                        refine (if_neg c_22).trans ?_
                        refine (if_pos c_23).trans ?_
                        rfl
                      rw [hF]
                      exact KC.retv hx hb hr hlocks hK hP hD hS dX5_alu_242
                  · exact absurd c_26 c_22
              · refine lv_iload_n hx hb dX5_alu_166 rfl (lv_at hl 2 rfl) ?_
                refine lv_iload_n hx hb dX5_alu_167 rfl (lv_at hl 5 rfl) ?_
                refine lv_iand hx hb dX5_alu_168 ?_
                refine lv_goto (tgt := 186) hx hb dX5_alu_169 (by decide) ?_
                refine lv_istore (lv' := [(5, .int _), (4, .int _), (3, .int _), (0, .ref _), (1, .int _), (2, .int _)]) hx hb dX5_alu_186 hl (by decide) rfl (fun ls hl => ?_)
                refine lv_aload_n hx hb dX5_alu_188 rfl (lv_at hl 3 rfl) ?_
                refine lv_iload_n hx hb dX5_alu_189 rfl (lv_at hl 4 rfl) ?_
                refine lv_iconst (v := 4) hx hb dX5_alu_190 (by decide) ?_
                refine lv_icmp_ne (tgt := 204) hx hb dX5_alu_191 (by decide) (fun c_28 => ?_) (fun c_28 => ?_)
                · exact absurd c_22 c_28
                · refine lv_iload_n hx hb dX5_alu_194 rfl (lv_at hl 2 rfl) ?_
                  refine lv_iload_n hx hb dX5_alu_195 rfl (lv_at hl 5 rfl) ?_
                  refine lv_ior hx hb dX5_alu_196 ?_
                  refine lv_iconst (v := 3) hx hb dX5_alu_197 (by decide) ?_
                  refine lv_ishr hx hb dX5_alu_198 ?_
                  refine lv_iconst (v := 1) hx hb dX5_alu_199 (by decide) ?_
                  refine lv_iand hx hb dX5_alu_200 ?_
                  refine lv_goto (tgt := 205) hx hb dX5_alu_201 (by decide) ?_
                  refine pu_R_f14 (v := ((((a 2) (7 : Int32).toNatClampNeg) ||| p2) >>> ((3 : Int32) &&& 31)) &&& (1 : Int32)) hx hb hts hi5 hown hK hP hD hS (hts (.fieldLink RX5 63 "InvaderBoardModel" "half" "I") (List.mem_cons_of_mem _ (List.mem_append_left _ (List.mem_of_getElem? (i := 2) rfl)))) dX5_alu_205 (fun H locs hP hD hS => ?_)
                  refine lv_aload_n hx hb dX5_alu_208 rfl (lv_at hl 3 rfl) ?_
                  refine lv_iconst (v := 0) hx hb dX5_alu_209 (by decide) ?_
                  refine pu_R_f16 (v := (0 : Int32)) hx hb hts hi5 hown hK hP hD hS (hts (.fieldLink RX5 66 "InvaderBoardModel" "carry" "I") (List.mem_cons_of_mem _ (List.mem_append_left _ (List.mem_of_getElem? (i := 1) rfl)))) dX5_alu_210 (fun H locs hP hD hS => ?_)
                  refine lv_aload_n hx hb dX5_alu_213 rfl (lv_at hl 3 rfl) ?_
                  refine lv_iload hx hb dX5_alu_214 (lv_at hl 0 rfl) ?_
                  refine lv_sipush (v := 255) hx hb dX5_alu_216 (by decide) ?_
                  refine lv_iand hx hb dX5_alu_219 ?_
                  refine KC.callv (ci := 5) (rest := []) (wt := wR cI o (rSigns (upd (upd f 14 (((((a 2) (7 : Int32).toNatClampNeg) ||| p2) >>> ((3 : Int32) &&& 31)) &&& (1 : Int32))) 16 (0 : Int32)) a ((((a 2) (7 : Int32).toNatClampNeg) &&& p2) &&& (255 : Int32))) a) (kX5_signs l D cI o (upd (upd f 14 (((((a 2) (7 : Int32).toNatClampNeg) ||| p2) >>> ((3 : Int32) &&& 31)) &&& (1 : Int32))) 16 (0 : Int32)) a ((((a 2) (7 : Int32).toNatClampNeg) &&& p2) &&& (255 : Int32))) (cwV 1 hts gX5_alu_X5_signs rfl rfl rfl (by decide +kernel) ⟨Nat.le_of_ble_eq_true rfl, Nat.le_of_ble_eq_true rfl⟩) ⟨hx, hb, hml, hown, hts⟩ hK hP hD hS hA rfl rfl rfl [0, 1, 2, 3, 4, 5, 6] [] [0, 1, 2, 3, 4, 5, 6] (by decide) rfl (wr := []) rfl (by decide) (by decide) (by decide) rfl rfl hl.1 rfl (Nat.le_of_ble_eq_true rfl) dX5_alu_220 ⟨Nat.zero_le _, Nat.zero_le _⟩ (fun H locs hP hD hS => ?_)
                  refine lv_iload_n hx hb dX5_alu_223 rfl (lv_at hl 4 rfl) ?_
                  refine lv_bipush (v := 7) hx hb dX5_alu_224 (by decide) ?_
                  refine lv_icmp_ge (tgt := 242) hx hb dX5_alu_226 (by decide) (fun c_29 => ?_) (fun c_29 => ?_)
                  · exact absurd c_29 (by rw [c_22]; decide)
                  · refine lv_aload_n hx hb dX5_alu_229 rfl (lv_at hl 3 rfl) ?_
                    refine va_get (ci := 5) (v := .ref (o 23)) (C := RX5) (T := TX5) (N := 24) hx hb hts hi5 hown hK hP 0 rfl rfl 3 (by decide) (hts (.fieldLink RX5 16 "InvaderBoardModel" "reg" "[I") (List.mem_cons_of_mem _ (List.mem_append_left _ (List.mem_of_getElem? (i := 0) rfl)))) (fun _ h9 => h9) rfl dX5_alu_230 ?_
                    refine lv_bipush (v := 7) hx hb dX5_alu_233 (by decide) ?_
                    refine lv_iload hx hb dX5_alu_235 (lv_at hl 0 rfl) ?_
                    refine lv_sipush (v := 255) hx hb dX5_alu_237 (by decide) ?_
                    refine lv_iand hx hb dX5_alu_240 ?_
                    refine pu_R_a2 hx hb hK hP hD hS (by unfold vp_in; decide) dX5_alu_241 (fun H locs hP hD hS => ?_)
                    have hF : rAlu f a p1 p2 = (rSigns (upd (upd f 14 (((((a 2) (7 : Int32).toNatClampNeg) ||| p2) >>> ((3 : Int32) &&& 31)) &&& (1 : Int32))) 16 (0 : Int32)) a ((((a 2) (7 : Int32).toNatClampNeg) &&& p2) &&& (255 : Int32)), ua a 2 (upd (a 2) (7 : Int32).toNatClampNeg ((((a 2) (7 : Int32).toNatClampNeg) &&& p2) &&& (255 : Int32)))) := by
                      unfold rAlu
                      refine (if_neg c_1).trans ?_
                      refine (if_neg c_10).trans ?_
                      refine (if_pos c_11).trans ?_
                      refine (if_neg c_12).trans ?_
                      refine (if_neg c_21).trans ?_
                      refine (if_pos c_22).trans ?_
                      rfl
                    rw [hF]
                    exact KC.retv hx hb hr hlocks hK hP hD hS dX5_alu_242
            · refine lv_iload_n hx hb dX5_alu_106 rfl (lv_at hl 2 rfl) ?_
              refine lv_iload_n hx hb dX5_alu_107 rfl (lv_at hl 5 rfl) ?_
              refine lv_isub hx hb dX5_alu_108 ?_
              refine lv_iload hx hb dX5_alu_109 (lv_at hl 1 rfl) ?_
              refine lv_isub hx hb dX5_alu_111 ?_
              refine lv_istore (lv' := [(5, .int _), (4, .int _), (3, .int _), (0, .ref _), (1, .int _), (2, .int _)]) hx hb dX5_alu_112 hl (by decide) rfl (fun ls hl => ?_)
              refine lv_aload_n hx hb dX5_alu_114 rfl (lv_at hl 3 rfl) ?_
              refine lv_iload_n hx hb dX5_alu_115 rfl (lv_at hl 2 rfl) ?_
              refine lv_bipush (v := 15) hx hb dX5_alu_116 (by decide) ?_
              refine lv_iand hx hb dX5_alu_118 ?_
              refine lv_iload_n hx hb dX5_alu_119 rfl (lv_at hl 5 rfl) ?_
              refine lv_iconst (v := -1) hx hb dX5_alu_120 (by decide) ?_
              refine lv_ixor hx hb dX5_alu_121 ?_
              refine lv_bipush (v := 15) hx hb dX5_alu_122 (by decide) ?_
              refine lv_iand hx hb dX5_alu_124 ?_
              refine lv_iadd hx hb dX5_alu_125 ?_
              refine lv_iconst (v := 1) hx hb dX5_alu_126 (by decide) ?_
              refine lv_iadd hx hb dX5_alu_127 ?_
              refine lv_iload hx hb dX5_alu_128 (lv_at hl 1 rfl) ?_
              refine lv_isub hx hb dX5_alu_130 ?_
              refine lv_bipush (v := 15) hx hb dX5_alu_131 (by decide) ?_
              refine lv_icmp_le (tgt := 140) hx hb dX5_alu_133 (by decide) (fun c_30 => ?_) (fun c_30 => ?_)
              · refine lv_iconst (v := 0) hx hb dX5_alu_140 (by decide) ?_
                refine pu_R_f14 (v := (0 : Int32)) hx hb hts hi5 hown hK hP hD hS (hts (.fieldLink RX5 63 "InvaderBoardModel" "half" "I") (List.mem_cons_of_mem _ (List.mem_append_left _ (List.mem_of_getElem? (i := 2) rfl)))) dX5_alu_141 (fun H locs hP hD hS => ?_)
                refine lv_aload_n hx hb dX5_alu_144 rfl (lv_at hl 3 rfl) ?_
                refine lv_iload hx hb dX5_alu_145 (lv_at hl 0 rfl) ?_
                refine lv_if_ge (tgt := 154) hx hb dX5_alu_147 (by decide) (fun c_31 => ?_) (fun c_31 => ?_)
                · refine lv_iconst (v := 0) hx hb dX5_alu_154 (by decide) ?_
                  refine pu_R_f16 (v := (0 : Int32)) hx hb hts hi5 hown hK hP hD hS (hts (.fieldLink RX5 66 "InvaderBoardModel" "carry" "I") (List.mem_cons_of_mem _ (List.mem_append_left _ (List.mem_of_getElem? (i := 1) rfl)))) dX5_alu_155 (fun H locs hP hD hS => ?_)
                  refine lv_goto (tgt := 213) hx hb dX5_alu_158 (by decide) ?_
                  refine lv_aload_n hx hb dX5_alu_213 rfl (lv_at hl 3 rfl) ?_
                  refine lv_iload hx hb dX5_alu_214 (lv_at hl 0 rfl) ?_
                  refine lv_sipush (v := 255) hx hb dX5_alu_216 (by decide) ?_
                  refine lv_iand hx hb dX5_alu_219 ?_
                  refine KC.callv (ci := 5) (rest := []) (wt := wR cI o (rSigns (upd (upd f 14 (0 : Int32)) 16 (0 : Int32)) a (((((a 2) (7 : Int32).toNatClampNeg) - p2) - (0 : Int32)) &&& (255 : Int32))) a) (kX5_signs l D cI o (upd (upd f 14 (0 : Int32)) 16 (0 : Int32)) a (((((a 2) (7 : Int32).toNatClampNeg) - p2) - (0 : Int32)) &&& (255 : Int32))) (cwV 1 hts gX5_alu_X5_signs rfl rfl rfl (by decide +kernel) ⟨Nat.le_of_ble_eq_true rfl, Nat.le_of_ble_eq_true rfl⟩) ⟨hx, hb, hml, hown, hts⟩ hK hP hD hS hA rfl rfl rfl [0, 1, 2, 3, 4, 5, 6] [] [0, 1, 2, 3, 4, 5, 6] (by decide) rfl (wr := []) rfl (by decide) (by decide) (by decide) rfl rfl hl.1 rfl (Nat.le_of_ble_eq_true rfl) dX5_alu_220 ⟨Nat.zero_le _, Nat.zero_le _⟩ (fun H locs hP hD hS => ?_)
                  refine lv_iload_n hx hb dX5_alu_223 rfl (lv_at hl 4 rfl) ?_
                  refine lv_bipush (v := 7) hx hb dX5_alu_224 (by decide) ?_
                  refine lv_icmp_ge (tgt := 242) hx hb dX5_alu_226 (by decide) (fun c_32 => ?_) (fun c_32 => ?_)
                  · have hF : rAlu f a p1 p2 = (rSigns (upd (upd f 14 (0 : Int32)) 16 (0 : Int32)) a (((((a 2) (7 : Int32).toNatClampNeg) - p2) - (0 : Int32)) &&& (255 : Int32)), a) := by
                      unfold rAlu
                      refine (if_neg c_1).trans ?_
                      refine (if_neg c_10).trans ?_
                      refine (if_pos c_11).trans ?_
                      refine (if_neg c_12).trans ?_
                      refine (if_pos c_21).trans ?_
                      refine (if_pos c_30).trans ?_
                      refine (if_pos c_31).trans ?_
                      rfl
                    rw [hF]
                    exact KC.retv hx hb hr hlocks hK hP hD hS dX5_alu_242
                  · exact absurd c_32 (by rw [c_21]; decide)
                · refine lv_iconst (v := 1) hx hb dX5_alu_150 (by decide) ?_
                  refine lv_goto (tgt := 155) hx hb dX5_alu_151 (by decide) ?_
                  refine pu_R_f16 (v := (1 : Int32)) hx hb hts hi5 hown hK hP hD hS (hts (.fieldLink RX5 66 "InvaderBoardModel" "carry" "I") (List.mem_cons_of_mem _ (List.mem_append_left _ (List.mem_of_getElem? (i := 1) rfl)))) dX5_alu_155 (fun H locs hP hD hS => ?_)
                  refine lv_goto (tgt := 213) hx hb dX5_alu_158 (by decide) ?_
                  refine lv_aload_n hx hb dX5_alu_213 rfl (lv_at hl 3 rfl) ?_
                  refine lv_iload hx hb dX5_alu_214 (lv_at hl 0 rfl) ?_
                  refine lv_sipush (v := 255) hx hb dX5_alu_216 (by decide) ?_
                  refine lv_iand hx hb dX5_alu_219 ?_
                  refine KC.callv (ci := 5) (rest := []) (wt := wR cI o (rSigns (upd (upd f 14 (0 : Int32)) 16 (1 : Int32)) a (((((a 2) (7 : Int32).toNatClampNeg) - p2) - (0 : Int32)) &&& (255 : Int32))) a) (kX5_signs l D cI o (upd (upd f 14 (0 : Int32)) 16 (1 : Int32)) a (((((a 2) (7 : Int32).toNatClampNeg) - p2) - (0 : Int32)) &&& (255 : Int32))) (cwV 1 hts gX5_alu_X5_signs rfl rfl rfl (by decide +kernel) ⟨Nat.le_of_ble_eq_true rfl, Nat.le_of_ble_eq_true rfl⟩) ⟨hx, hb, hml, hown, hts⟩ hK hP hD hS hA rfl rfl rfl [0, 1, 2, 3, 4, 5, 6] [] [0, 1, 2, 3, 4, 5, 6] (by decide) rfl (wr := []) rfl (by decide) (by decide) (by decide) rfl rfl hl.1 rfl (Nat.le_of_ble_eq_true rfl) dX5_alu_220 ⟨Nat.zero_le _, Nat.zero_le _⟩ (fun H locs hP hD hS => ?_)
                  refine lv_iload_n hx hb dX5_alu_223 rfl (lv_at hl 4 rfl) ?_
                  refine lv_bipush (v := 7) hx hb dX5_alu_224 (by decide) ?_
                  refine lv_icmp_ge (tgt := 242) hx hb dX5_alu_226 (by decide) (fun c_33 => ?_) (fun c_33 => ?_)
                  · have hF : rAlu f a p1 p2 = (rSigns (upd (upd f 14 (0 : Int32)) 16 (1 : Int32)) a (((((a 2) (7 : Int32).toNatClampNeg) - p2) - (0 : Int32)) &&& (255 : Int32)), a) := by
                      unfold rAlu
                      refine (if_neg c_1).trans ?_
                      refine (if_neg c_10).trans ?_
                      refine (if_pos c_11).trans ?_
                      refine (if_neg c_12).trans ?_
                      refine (if_pos c_21).trans ?_
                      refine (if_pos c_30).trans ?_
                      refine (if_neg c_31).trans ?_
                      rfl
                    rw [hF]
                    exact KC.retv hx hb hr hlocks hK hP hD hS dX5_alu_242
                  · exact absurd c_33 (by rw [c_21]; decide)
              · refine lv_iconst (v := 1) hx hb dX5_alu_136 (by decide) ?_
                refine lv_goto (tgt := 141) hx hb dX5_alu_137 (by decide) ?_
                refine pu_R_f14 (v := (1 : Int32)) hx hb hts hi5 hown hK hP hD hS (hts (.fieldLink RX5 63 "InvaderBoardModel" "half" "I") (List.mem_cons_of_mem _ (List.mem_append_left _ (List.mem_of_getElem? (i := 2) rfl)))) dX5_alu_141 (fun H locs hP hD hS => ?_)
                refine lv_aload_n hx hb dX5_alu_144 rfl (lv_at hl 3 rfl) ?_
                refine lv_iload hx hb dX5_alu_145 (lv_at hl 0 rfl) ?_
                refine lv_if_ge (tgt := 154) hx hb dX5_alu_147 (by decide) (fun c_34 => ?_) (fun c_34 => ?_)
                · refine lv_iconst (v := 0) hx hb dX5_alu_154 (by decide) ?_
                  refine pu_R_f16 (v := (0 : Int32)) hx hb hts hi5 hown hK hP hD hS (hts (.fieldLink RX5 66 "InvaderBoardModel" "carry" "I") (List.mem_cons_of_mem _ (List.mem_append_left _ (List.mem_of_getElem? (i := 1) rfl)))) dX5_alu_155 (fun H locs hP hD hS => ?_)
                  refine lv_goto (tgt := 213) hx hb dX5_alu_158 (by decide) ?_
                  refine lv_aload_n hx hb dX5_alu_213 rfl (lv_at hl 3 rfl) ?_
                  refine lv_iload hx hb dX5_alu_214 (lv_at hl 0 rfl) ?_
                  refine lv_sipush (v := 255) hx hb dX5_alu_216 (by decide) ?_
                  refine lv_iand hx hb dX5_alu_219 ?_
                  refine KC.callv (ci := 5) (rest := []) (wt := wR cI o (rSigns (upd (upd f 14 (1 : Int32)) 16 (0 : Int32)) a (((((a 2) (7 : Int32).toNatClampNeg) - p2) - (0 : Int32)) &&& (255 : Int32))) a) (kX5_signs l D cI o (upd (upd f 14 (1 : Int32)) 16 (0 : Int32)) a (((((a 2) (7 : Int32).toNatClampNeg) - p2) - (0 : Int32)) &&& (255 : Int32))) (cwV 1 hts gX5_alu_X5_signs rfl rfl rfl (by decide +kernel) ⟨Nat.le_of_ble_eq_true rfl, Nat.le_of_ble_eq_true rfl⟩) ⟨hx, hb, hml, hown, hts⟩ hK hP hD hS hA rfl rfl rfl [0, 1, 2, 3, 4, 5, 6] [] [0, 1, 2, 3, 4, 5, 6] (by decide) rfl (wr := []) rfl (by decide) (by decide) (by decide) rfl rfl hl.1 rfl (Nat.le_of_ble_eq_true rfl) dX5_alu_220 ⟨Nat.zero_le _, Nat.zero_le _⟩ (fun H locs hP hD hS => ?_)
                  refine lv_iload_n hx hb dX5_alu_223 rfl (lv_at hl 4 rfl) ?_
                  refine lv_bipush (v := 7) hx hb dX5_alu_224 (by decide) ?_
                  refine lv_icmp_ge (tgt := 242) hx hb dX5_alu_226 (by decide) (fun c_35 => ?_) (fun c_35 => ?_)
                  · have hF : rAlu f a p1 p2 = (rSigns (upd (upd f 14 (1 : Int32)) 16 (0 : Int32)) a (((((a 2) (7 : Int32).toNatClampNeg) - p2) - (0 : Int32)) &&& (255 : Int32)), a) := by
                      unfold rAlu
                      refine (if_neg c_1).trans ?_
                      refine (if_neg c_10).trans ?_
                      refine (if_pos c_11).trans ?_
                      refine (if_neg c_12).trans ?_
                      refine (if_pos c_21).trans ?_
                      refine (if_neg c_30).trans ?_
                      refine (if_pos c_34).trans ?_
                      rfl
                    rw [hF]
                    exact KC.retv hx hb hr hlocks hK hP hD hS dX5_alu_242
                  · exact absurd c_35 (by rw [c_21]; decide)
                · refine lv_iconst (v := 1) hx hb dX5_alu_150 (by decide) ?_
                  refine lv_goto (tgt := 155) hx hb dX5_alu_151 (by decide) ?_
                  refine pu_R_f16 (v := (1 : Int32)) hx hb hts hi5 hown hK hP hD hS (hts (.fieldLink RX5 66 "InvaderBoardModel" "carry" "I") (List.mem_cons_of_mem _ (List.mem_append_left _ (List.mem_of_getElem? (i := 1) rfl)))) dX5_alu_155 (fun H locs hP hD hS => ?_)
                  refine lv_goto (tgt := 213) hx hb dX5_alu_158 (by decide) ?_
                  refine lv_aload_n hx hb dX5_alu_213 rfl (lv_at hl 3 rfl) ?_
                  refine lv_iload hx hb dX5_alu_214 (lv_at hl 0 rfl) ?_
                  refine lv_sipush (v := 255) hx hb dX5_alu_216 (by decide) ?_
                  refine lv_iand hx hb dX5_alu_219 ?_
                  refine KC.callv (ci := 5) (rest := []) (wt := wR cI o (rSigns (upd (upd f 14 (1 : Int32)) 16 (1 : Int32)) a (((((a 2) (7 : Int32).toNatClampNeg) - p2) - (0 : Int32)) &&& (255 : Int32))) a) (kX5_signs l D cI o (upd (upd f 14 (1 : Int32)) 16 (1 : Int32)) a (((((a 2) (7 : Int32).toNatClampNeg) - p2) - (0 : Int32)) &&& (255 : Int32))) (cwV 1 hts gX5_alu_X5_signs rfl rfl rfl (by decide +kernel) ⟨Nat.le_of_ble_eq_true rfl, Nat.le_of_ble_eq_true rfl⟩) ⟨hx, hb, hml, hown, hts⟩ hK hP hD hS hA rfl rfl rfl [0, 1, 2, 3, 4, 5, 6] [] [0, 1, 2, 3, 4, 5, 6] (by decide) rfl (wr := []) rfl (by decide) (by decide) (by decide) rfl rfl hl.1 rfl (Nat.le_of_ble_eq_true rfl) dX5_alu_220 ⟨Nat.zero_le _, Nat.zero_le _⟩ (fun H locs hP hD hS => ?_)
                  refine lv_iload_n hx hb dX5_alu_223 rfl (lv_at hl 4 rfl) ?_
                  refine lv_bipush (v := 7) hx hb dX5_alu_224 (by decide) ?_
                  refine lv_icmp_ge (tgt := 242) hx hb dX5_alu_226 (by decide) (fun c_36 => ?_) (fun c_36 => ?_)
                  · have hF : rAlu f a p1 p2 = (rSigns (upd (upd f 14 (1 : Int32)) 16 (1 : Int32)) a (((((a 2) (7 : Int32).toNatClampNeg) - p2) - (0 : Int32)) &&& (255 : Int32)), a) := by
                      unfold rAlu
                      refine (if_neg c_1).trans ?_
                      refine (if_neg c_10).trans ?_
                      refine (if_pos c_11).trans ?_
                      refine (if_neg c_12).trans ?_
                      refine (if_pos c_21).trans ?_
                      refine (if_neg c_30).trans ?_
                      refine (if_neg c_34).trans ?_
                      rfl
                    rw [hF]
                    exact KC.retv hx hb hr hlocks hK hP hD hS dX5_alu_242
                  · exact absurd c_36 (by rw [c_21]; decide)
      · refine lv_iload_n hx hb dX5_alu_36 rfl (lv_at hl 2 rfl) ?_
        refine lv_iload_n hx hb dX5_alu_37 rfl (lv_at hl 5 rfl) ?_
        refine lv_iadd hx hb dX5_alu_38 ?_
        refine lv_iload hx hb dX5_alu_39 (lv_at hl 1 rfl) ?_
        refine lv_iadd hx hb dX5_alu_41 ?_
        refine lv_istore (lv' := [(5, .int _), (4, .int _), (3, .int _), (0, .ref _), (1, .int _), (2, .int _)]) hx hb dX5_alu_42 hl (by decide) rfl (fun ls hl => ?_)
        refine lv_aload_n hx hb dX5_alu_44 rfl (lv_at hl 3 rfl) ?_
        refine lv_iload_n hx hb dX5_alu_45 rfl (lv_at hl 2 rfl) ?_
        refine lv_bipush (v := 15) hx hb dX5_alu_46 (by decide) ?_
        refine lv_iand hx hb dX5_alu_48 ?_
        refine lv_iload_n hx hb dX5_alu_49 rfl (lv_at hl 5 rfl) ?_
        refine lv_bipush (v := 15) hx hb dX5_alu_50 (by decide) ?_
        refine lv_iand hx hb dX5_alu_52 ?_
        refine lv_iadd hx hb dX5_alu_53 ?_
        refine lv_iload hx hb dX5_alu_54 (lv_at hl 1 rfl) ?_
        refine lv_iadd hx hb dX5_alu_56 ?_
        refine lv_bipush (v := 15) hx hb dX5_alu_57 (by decide) ?_
        refine lv_icmp_le (tgt := 66) hx hb dX5_alu_59 (by decide) (fun c_37 => ?_) (fun c_37 => ?_)
        · refine lv_iconst (v := 0) hx hb dX5_alu_66 (by decide) ?_
          refine pu_R_f14 (v := (0 : Int32)) hx hb hts hi5 hown hK hP hD hS (hts (.fieldLink RX5 63 "InvaderBoardModel" "half" "I") (List.mem_cons_of_mem _ (List.mem_append_left _ (List.mem_of_getElem? (i := 2) rfl)))) dX5_alu_67 (fun H locs hP hD hS => ?_)
          refine lv_aload_n hx hb dX5_alu_70 rfl (lv_at hl 3 rfl) ?_
          refine lv_iload hx hb dX5_alu_71 (lv_at hl 0 rfl) ?_
          refine lv_sipush (v := 255) hx hb dX5_alu_73 (by decide) ?_
          refine lv_icmp_le (tgt := 83) hx hb dX5_alu_76 (by decide) (fun c_38 => ?_) (fun c_38 => ?_)
          · refine lv_iconst (v := 0) hx hb dX5_alu_83 (by decide) ?_
            refine pu_R_f16 (v := (0 : Int32)) hx hb hts hi5 hown hK hP hD hS (hts (.fieldLink RX5 66 "InvaderBoardModel" "carry" "I") (List.mem_cons_of_mem _ (List.mem_append_left _ (List.mem_of_getElem? (i := 1) rfl)))) dX5_alu_84 (fun H locs hP hD hS => ?_)
            refine lv_goto (tgt := 213) hx hb dX5_alu_87 (by decide) ?_
            refine lv_aload_n hx hb dX5_alu_213 rfl (lv_at hl 3 rfl) ?_
            refine lv_iload hx hb dX5_alu_214 (lv_at hl 0 rfl) ?_
            refine lv_sipush (v := 255) hx hb dX5_alu_216 (by decide) ?_
            refine lv_iand hx hb dX5_alu_219 ?_
            refine KC.callv (ci := 5) (rest := []) (wt := wR cI o (rSigns (upd (upd f 14 (0 : Int32)) 16 (0 : Int32)) a (((((a 2) (7 : Int32).toNatClampNeg) + p2) + (0 : Int32)) &&& (255 : Int32))) a) (kX5_signs l D cI o (upd (upd f 14 (0 : Int32)) 16 (0 : Int32)) a (((((a 2) (7 : Int32).toNatClampNeg) + p2) + (0 : Int32)) &&& (255 : Int32))) (cwV 1 hts gX5_alu_X5_signs rfl rfl rfl (by decide +kernel) ⟨Nat.le_of_ble_eq_true rfl, Nat.le_of_ble_eq_true rfl⟩) ⟨hx, hb, hml, hown, hts⟩ hK hP hD hS hA rfl rfl rfl [0, 1, 2, 3, 4, 5, 6] [] [0, 1, 2, 3, 4, 5, 6] (by decide) rfl (wr := []) rfl (by decide) (by decide) (by decide) rfl rfl hl.1 rfl (Nat.le_of_ble_eq_true rfl) dX5_alu_220 ⟨Nat.zero_le _, Nat.zero_le _⟩ (fun H locs hP hD hS => ?_)
            refine lv_iload_n hx hb dX5_alu_223 rfl (lv_at hl 4 rfl) ?_
            refine lv_bipush (v := 7) hx hb dX5_alu_224 (by decide) ?_
            refine lv_icmp_ge (tgt := 242) hx hb dX5_alu_226 (by decide) (fun c_39 => ?_) (fun c_39 => ?_)
            · have hF : rAlu f a p1 p2 = (rSigns (upd (upd f 14 (0 : Int32)) 16 (0 : Int32)) a (((((a 2) (7 : Int32).toNatClampNeg) + p2) + (0 : Int32)) &&& (255 : Int32)), a) := by
                unfold rAlu
                refine (if_neg c_1).trans ?_
                refine (if_neg c_10).trans ?_
                refine (if_neg c_11).trans ?_
                refine (if_pos c_37).trans ?_
                refine (if_pos c_38).trans ?_
                refine (if_pos c_39).trans ?_
                rfl
              rw [hF]
              exact KC.retv hx hb hr hlocks hK hP hD hS dX5_alu_242
            · refine lv_aload_n hx hb dX5_alu_229 rfl (lv_at hl 3 rfl) ?_
              refine va_get (ci := 5) (v := .ref (o 23)) (C := RX5) (T := TX5) (N := 24) hx hb hts hi5 hown hK hP 0 rfl rfl 3 (by decide) (hts (.fieldLink RX5 16 "InvaderBoardModel" "reg" "[I") (List.mem_cons_of_mem _ (List.mem_append_left _ (List.mem_of_getElem? (i := 0) rfl)))) (fun _ h9 => h9) rfl dX5_alu_230 ?_
              refine lv_bipush (v := 7) hx hb dX5_alu_233 (by decide) ?_
              refine lv_iload hx hb dX5_alu_235 (lv_at hl 0 rfl) ?_
              refine lv_sipush (v := 255) hx hb dX5_alu_237 (by decide) ?_
              refine lv_iand hx hb dX5_alu_240 ?_
              refine pu_R_a2 hx hb hK hP hD hS (by unfold vp_in; decide) dX5_alu_241 (fun H locs hP hD hS => ?_)
              have hF : rAlu f a p1 p2 = (rSigns (upd (upd f 14 (0 : Int32)) 16 (0 : Int32)) a (((((a 2) (7 : Int32).toNatClampNeg) + p2) + (0 : Int32)) &&& (255 : Int32)), ua a 2 (upd (a 2) (7 : Int32).toNatClampNeg (((((a 2) (7 : Int32).toNatClampNeg) + p2) + (0 : Int32)) &&& (255 : Int32)))) := by
                unfold rAlu
                refine (if_neg c_1).trans ?_
                refine (if_neg c_10).trans ?_
                refine (if_neg c_11).trans ?_
                refine (if_pos c_37).trans ?_
                refine (if_pos c_38).trans ?_
                refine (if_neg c_39).trans ?_
                rfl
              rw [hF]
              exact KC.retv hx hb hr hlocks hK hP hD hS dX5_alu_242
          · refine lv_iconst (v := 1) hx hb dX5_alu_79 (by decide) ?_
            refine lv_goto (tgt := 84) hx hb dX5_alu_80 (by decide) ?_
            refine pu_R_f16 (v := (1 : Int32)) hx hb hts hi5 hown hK hP hD hS (hts (.fieldLink RX5 66 "InvaderBoardModel" "carry" "I") (List.mem_cons_of_mem _ (List.mem_append_left _ (List.mem_of_getElem? (i := 1) rfl)))) dX5_alu_84 (fun H locs hP hD hS => ?_)
            refine lv_goto (tgt := 213) hx hb dX5_alu_87 (by decide) ?_
            refine lv_aload_n hx hb dX5_alu_213 rfl (lv_at hl 3 rfl) ?_
            refine lv_iload hx hb dX5_alu_214 (lv_at hl 0 rfl) ?_
            refine lv_sipush (v := 255) hx hb dX5_alu_216 (by decide) ?_
            refine lv_iand hx hb dX5_alu_219 ?_
            refine KC.callv (ci := 5) (rest := []) (wt := wR cI o (rSigns (upd (upd f 14 (0 : Int32)) 16 (1 : Int32)) a (((((a 2) (7 : Int32).toNatClampNeg) + p2) + (0 : Int32)) &&& (255 : Int32))) a) (kX5_signs l D cI o (upd (upd f 14 (0 : Int32)) 16 (1 : Int32)) a (((((a 2) (7 : Int32).toNatClampNeg) + p2) + (0 : Int32)) &&& (255 : Int32))) (cwV 1 hts gX5_alu_X5_signs rfl rfl rfl (by decide +kernel) ⟨Nat.le_of_ble_eq_true rfl, Nat.le_of_ble_eq_true rfl⟩) ⟨hx, hb, hml, hown, hts⟩ hK hP hD hS hA rfl rfl rfl [0, 1, 2, 3, 4, 5, 6] [] [0, 1, 2, 3, 4, 5, 6] (by decide) rfl (wr := []) rfl (by decide) (by decide) (by decide) rfl rfl hl.1 rfl (Nat.le_of_ble_eq_true rfl) dX5_alu_220 ⟨Nat.zero_le _, Nat.zero_le _⟩ (fun H locs hP hD hS => ?_)
            refine lv_iload_n hx hb dX5_alu_223 rfl (lv_at hl 4 rfl) ?_
            refine lv_bipush (v := 7) hx hb dX5_alu_224 (by decide) ?_
            refine lv_icmp_ge (tgt := 242) hx hb dX5_alu_226 (by decide) (fun c_40 => ?_) (fun c_40 => ?_)
            · have hF : rAlu f a p1 p2 = (rSigns (upd (upd f 14 (0 : Int32)) 16 (1 : Int32)) a (((((a 2) (7 : Int32).toNatClampNeg) + p2) + (0 : Int32)) &&& (255 : Int32)), a) := by
                unfold rAlu
                refine (if_neg c_1).trans ?_
                refine (if_neg c_10).trans ?_
                refine (if_neg c_11).trans ?_
                refine (if_pos c_37).trans ?_
                refine (if_neg c_38).trans ?_
                refine (if_pos c_40).trans ?_
                rfl
              rw [hF]
              exact KC.retv hx hb hr hlocks hK hP hD hS dX5_alu_242
            · refine lv_aload_n hx hb dX5_alu_229 rfl (lv_at hl 3 rfl) ?_
              refine va_get (ci := 5) (v := .ref (o 23)) (C := RX5) (T := TX5) (N := 24) hx hb hts hi5 hown hK hP 0 rfl rfl 3 (by decide) (hts (.fieldLink RX5 16 "InvaderBoardModel" "reg" "[I") (List.mem_cons_of_mem _ (List.mem_append_left _ (List.mem_of_getElem? (i := 0) rfl)))) (fun _ h9 => h9) rfl dX5_alu_230 ?_
              refine lv_bipush (v := 7) hx hb dX5_alu_233 (by decide) ?_
              refine lv_iload hx hb dX5_alu_235 (lv_at hl 0 rfl) ?_
              refine lv_sipush (v := 255) hx hb dX5_alu_237 (by decide) ?_
              refine lv_iand hx hb dX5_alu_240 ?_
              refine pu_R_a2 hx hb hK hP hD hS (by unfold vp_in; decide) dX5_alu_241 (fun H locs hP hD hS => ?_)
              have hF : rAlu f a p1 p2 = (rSigns (upd (upd f 14 (0 : Int32)) 16 (1 : Int32)) a (((((a 2) (7 : Int32).toNatClampNeg) + p2) + (0 : Int32)) &&& (255 : Int32)), ua a 2 (upd (a 2) (7 : Int32).toNatClampNeg (((((a 2) (7 : Int32).toNatClampNeg) + p2) + (0 : Int32)) &&& (255 : Int32)))) := by
                unfold rAlu
                refine (if_neg c_1).trans ?_
                refine (if_neg c_10).trans ?_
                refine (if_neg c_11).trans ?_
                refine (if_pos c_37).trans ?_
                refine (if_neg c_38).trans ?_
                refine (if_neg c_40).trans ?_
                rfl
              rw [hF]
              exact KC.retv hx hb hr hlocks hK hP hD hS dX5_alu_242
        · refine lv_iconst (v := 1) hx hb dX5_alu_62 (by decide) ?_
          refine lv_goto (tgt := 67) hx hb dX5_alu_63 (by decide) ?_
          refine pu_R_f14 (v := (1 : Int32)) hx hb hts hi5 hown hK hP hD hS (hts (.fieldLink RX5 63 "InvaderBoardModel" "half" "I") (List.mem_cons_of_mem _ (List.mem_append_left _ (List.mem_of_getElem? (i := 2) rfl)))) dX5_alu_67 (fun H locs hP hD hS => ?_)
          refine lv_aload_n hx hb dX5_alu_70 rfl (lv_at hl 3 rfl) ?_
          refine lv_iload hx hb dX5_alu_71 (lv_at hl 0 rfl) ?_
          refine lv_sipush (v := 255) hx hb dX5_alu_73 (by decide) ?_
          refine lv_icmp_le (tgt := 83) hx hb dX5_alu_76 (by decide) (fun c_41 => ?_) (fun c_41 => ?_)
          · refine lv_iconst (v := 0) hx hb dX5_alu_83 (by decide) ?_
            refine pu_R_f16 (v := (0 : Int32)) hx hb hts hi5 hown hK hP hD hS (hts (.fieldLink RX5 66 "InvaderBoardModel" "carry" "I") (List.mem_cons_of_mem _ (List.mem_append_left _ (List.mem_of_getElem? (i := 1) rfl)))) dX5_alu_84 (fun H locs hP hD hS => ?_)
            refine lv_goto (tgt := 213) hx hb dX5_alu_87 (by decide) ?_
            refine lv_aload_n hx hb dX5_alu_213 rfl (lv_at hl 3 rfl) ?_
            refine lv_iload hx hb dX5_alu_214 (lv_at hl 0 rfl) ?_
            refine lv_sipush (v := 255) hx hb dX5_alu_216 (by decide) ?_
            refine lv_iand hx hb dX5_alu_219 ?_
            refine KC.callv (ci := 5) (rest := []) (wt := wR cI o (rSigns (upd (upd f 14 (1 : Int32)) 16 (0 : Int32)) a (((((a 2) (7 : Int32).toNatClampNeg) + p2) + (0 : Int32)) &&& (255 : Int32))) a) (kX5_signs l D cI o (upd (upd f 14 (1 : Int32)) 16 (0 : Int32)) a (((((a 2) (7 : Int32).toNatClampNeg) + p2) + (0 : Int32)) &&& (255 : Int32))) (cwV 1 hts gX5_alu_X5_signs rfl rfl rfl (by decide +kernel) ⟨Nat.le_of_ble_eq_true rfl, Nat.le_of_ble_eq_true rfl⟩) ⟨hx, hb, hml, hown, hts⟩ hK hP hD hS hA rfl rfl rfl [0, 1, 2, 3, 4, 5, 6] [] [0, 1, 2, 3, 4, 5, 6] (by decide) rfl (wr := []) rfl (by decide) (by decide) (by decide) rfl rfl hl.1 rfl (Nat.le_of_ble_eq_true rfl) dX5_alu_220 ⟨Nat.zero_le _, Nat.zero_le _⟩ (fun H locs hP hD hS => ?_)
            refine lv_iload_n hx hb dX5_alu_223 rfl (lv_at hl 4 rfl) ?_
            refine lv_bipush (v := 7) hx hb dX5_alu_224 (by decide) ?_
            refine lv_icmp_ge (tgt := 242) hx hb dX5_alu_226 (by decide) (fun c_42 => ?_) (fun c_42 => ?_)
            · have hF : rAlu f a p1 p2 = (rSigns (upd (upd f 14 (1 : Int32)) 16 (0 : Int32)) a (((((a 2) (7 : Int32).toNatClampNeg) + p2) + (0 : Int32)) &&& (255 : Int32)), a) := by
                unfold rAlu
                refine (if_neg c_1).trans ?_
                refine (if_neg c_10).trans ?_
                refine (if_neg c_11).trans ?_
                refine (if_neg c_37).trans ?_
                refine (if_pos c_41).trans ?_
                refine (if_pos c_42).trans ?_
                rfl
              rw [hF]
              exact KC.retv hx hb hr hlocks hK hP hD hS dX5_alu_242
            · refine lv_aload_n hx hb dX5_alu_229 rfl (lv_at hl 3 rfl) ?_
              refine va_get (ci := 5) (v := .ref (o 23)) (C := RX5) (T := TX5) (N := 24) hx hb hts hi5 hown hK hP 0 rfl rfl 3 (by decide) (hts (.fieldLink RX5 16 "InvaderBoardModel" "reg" "[I") (List.mem_cons_of_mem _ (List.mem_append_left _ (List.mem_of_getElem? (i := 0) rfl)))) (fun _ h9 => h9) rfl dX5_alu_230 ?_
              refine lv_bipush (v := 7) hx hb dX5_alu_233 (by decide) ?_
              refine lv_iload hx hb dX5_alu_235 (lv_at hl 0 rfl) ?_
              refine lv_sipush (v := 255) hx hb dX5_alu_237 (by decide) ?_
              refine lv_iand hx hb dX5_alu_240 ?_
              refine pu_R_a2 hx hb hK hP hD hS (by unfold vp_in; decide) dX5_alu_241 (fun H locs hP hD hS => ?_)
              have hF : rAlu f a p1 p2 = (rSigns (upd (upd f 14 (1 : Int32)) 16 (0 : Int32)) a (((((a 2) (7 : Int32).toNatClampNeg) + p2) + (0 : Int32)) &&& (255 : Int32)), ua a 2 (upd (a 2) (7 : Int32).toNatClampNeg (((((a 2) (7 : Int32).toNatClampNeg) + p2) + (0 : Int32)) &&& (255 : Int32)))) := by
                unfold rAlu
                refine (if_neg c_1).trans ?_
                refine (if_neg c_10).trans ?_
                refine (if_neg c_11).trans ?_
                refine (if_neg c_37).trans ?_
                refine (if_pos c_41).trans ?_
                refine (if_neg c_42).trans ?_
                rfl
              rw [hF]
              exact KC.retv hx hb hr hlocks hK hP hD hS dX5_alu_242
          · refine lv_iconst (v := 1) hx hb dX5_alu_79 (by decide) ?_
            refine lv_goto (tgt := 84) hx hb dX5_alu_80 (by decide) ?_
            refine pu_R_f16 (v := (1 : Int32)) hx hb hts hi5 hown hK hP hD hS (hts (.fieldLink RX5 66 "InvaderBoardModel" "carry" "I") (List.mem_cons_of_mem _ (List.mem_append_left _ (List.mem_of_getElem? (i := 1) rfl)))) dX5_alu_84 (fun H locs hP hD hS => ?_)
            refine lv_goto (tgt := 213) hx hb dX5_alu_87 (by decide) ?_
            refine lv_aload_n hx hb dX5_alu_213 rfl (lv_at hl 3 rfl) ?_
            refine lv_iload hx hb dX5_alu_214 (lv_at hl 0 rfl) ?_
            refine lv_sipush (v := 255) hx hb dX5_alu_216 (by decide) ?_
            refine lv_iand hx hb dX5_alu_219 ?_
            refine KC.callv (ci := 5) (rest := []) (wt := wR cI o (rSigns (upd (upd f 14 (1 : Int32)) 16 (1 : Int32)) a (((((a 2) (7 : Int32).toNatClampNeg) + p2) + (0 : Int32)) &&& (255 : Int32))) a) (kX5_signs l D cI o (upd (upd f 14 (1 : Int32)) 16 (1 : Int32)) a (((((a 2) (7 : Int32).toNatClampNeg) + p2) + (0 : Int32)) &&& (255 : Int32))) (cwV 1 hts gX5_alu_X5_signs rfl rfl rfl (by decide +kernel) ⟨Nat.le_of_ble_eq_true rfl, Nat.le_of_ble_eq_true rfl⟩) ⟨hx, hb, hml, hown, hts⟩ hK hP hD hS hA rfl rfl rfl [0, 1, 2, 3, 4, 5, 6] [] [0, 1, 2, 3, 4, 5, 6] (by decide) rfl (wr := []) rfl (by decide) (by decide) (by decide) rfl rfl hl.1 rfl (Nat.le_of_ble_eq_true rfl) dX5_alu_220 ⟨Nat.zero_le _, Nat.zero_le _⟩ (fun H locs hP hD hS => ?_)
            refine lv_iload_n hx hb dX5_alu_223 rfl (lv_at hl 4 rfl) ?_
            refine lv_bipush (v := 7) hx hb dX5_alu_224 (by decide) ?_
            refine lv_icmp_ge (tgt := 242) hx hb dX5_alu_226 (by decide) (fun c_43 => ?_) (fun c_43 => ?_)
            · have hF : rAlu f a p1 p2 = (rSigns (upd (upd f 14 (1 : Int32)) 16 (1 : Int32)) a (((((a 2) (7 : Int32).toNatClampNeg) + p2) + (0 : Int32)) &&& (255 : Int32)), a) := by
                unfold rAlu
                refine (if_neg c_1).trans ?_
                refine (if_neg c_10).trans ?_
                refine (if_neg c_11).trans ?_
                refine (if_neg c_37).trans ?_
                refine (if_neg c_41).trans ?_
                refine (if_pos c_43).trans ?_
                rfl
              rw [hF]
              exact KC.retv hx hb hr hlocks hK hP hD hS dX5_alu_242
            · refine lv_aload_n hx hb dX5_alu_229 rfl (lv_at hl 3 rfl) ?_
              refine va_get (ci := 5) (v := .ref (o 23)) (C := RX5) (T := TX5) (N := 24) hx hb hts hi5 hown hK hP 0 rfl rfl 3 (by decide) (hts (.fieldLink RX5 16 "InvaderBoardModel" "reg" "[I") (List.mem_cons_of_mem _ (List.mem_append_left _ (List.mem_of_getElem? (i := 0) rfl)))) (fun _ h9 => h9) rfl dX5_alu_230 ?_
              refine lv_bipush (v := 7) hx hb dX5_alu_233 (by decide) ?_
              refine lv_iload hx hb dX5_alu_235 (lv_at hl 0 rfl) ?_
              refine lv_sipush (v := 255) hx hb dX5_alu_237 (by decide) ?_
              refine lv_iand hx hb dX5_alu_240 ?_
              refine pu_R_a2 hx hb hK hP hD hS (by unfold vp_in; decide) dX5_alu_241 (fun H locs hP hD hS => ?_)
              have hF : rAlu f a p1 p2 = (rSigns (upd (upd f 14 (1 : Int32)) 16 (1 : Int32)) a (((((a 2) (7 : Int32).toNatClampNeg) + p2) + (0 : Int32)) &&& (255 : Int32)), ua a 2 (upd (a 2) (7 : Int32).toNatClampNeg (((((a 2) (7 : Int32).toNatClampNeg) + p2) + (0 : Int32)) &&& (255 : Int32)))) := by
                unfold rAlu
                refine (if_neg c_1).trans ?_
                refine (if_neg c_10).trans ?_
                refine (if_neg c_11).trans ?_
                refine (if_neg c_37).trans ?_
                refine (if_neg c_41).trans ?_
                refine (if_neg c_43).trans ?_
                rfl
              rw [hF]
              exact KC.retv hx hb hr hlocks hK hP hD hS dX5_alu_242
    · refine lv_aload_n hx hb dX5_alu_18 rfl (lv_at hl 1 rfl) ?_
      refine va_get (ci := 5) (v := .int (f 16)) (C := RX5) (T := TX5) (N := 24) hx hb hts hi5 hown hK hP 0 rfl rfl 10 (by decide) (hts (.fieldLink RX5 66 "InvaderBoardModel" "carry" "I") (List.mem_cons_of_mem _ (List.mem_append_left _ (List.mem_of_getElem? (i := 1) rfl)))) (fun _ h9 => h9) rfl dX5_alu_19 ?_
      refine lv_goto (tgt := 26) hx hb dX5_alu_22 (by decide) ?_
      refine lv_istore (lv' := [(4, .int _), (3, .int _), (0, .ref _), (1, .int _), (2, .int _)]) hx hb dX5_alu_26 hl (by decide) rfl (fun ls hl => ?_)
      refine lv_iload_n hx hb dX5_alu_28 rfl (lv_at hl 1 rfl) ?_
      refine lv_istore (lv' := [(5, .int _), (4, .int _), (3, .int _), (0, .ref _), (1, .int _), (2, .int _)]) hx hb dX5_alu_29 hl (by decide) rfl (fun ls hl => ?_)
      refine lv_iload_n hx hb dX5_alu_31 rfl (lv_at hl 4 rfl) ?_
      refine lv_iconst (v := 2) hx hb dX5_alu_32 (by decide) ?_
      refine lv_icmp_ge (tgt := 90) hx hb dX5_alu_33 (by decide) (fun c_44 => ?_) (fun c_44 => ?_)
      · refine lv_iload_n hx hb dX5_alu_90 rfl (lv_at hl 4 rfl) ?_
        refine lv_iconst (v := 2) hx hb dX5_alu_91 (by decide) ?_
        refine lv_icmp_eq (tgt := 106) hx hb dX5_alu_92 (by decide) (fun c_45 => ?_) (fun c_45 => ?_)
        · exact absurd c_45 (by rw [c_10]; decide)
        · refine lv_iload_n hx hb dX5_alu_95 rfl (lv_at hl 4 rfl) ?_
          refine lv_iconst (v := 3) hx hb dX5_alu_96 (by decide) ?_
          refine lv_icmp_eq (tgt := 106) hx hb dX5_alu_97 (by decide) (fun c_46 => ?_) (fun c_46 => ?_)
          · refine lv_iload_n hx hb dX5_alu_106 rfl (lv_at hl 2 rfl) ?_
            refine lv_iload_n hx hb dX5_alu_107 rfl (lv_at hl 5 rfl) ?_
            refine lv_isub hx hb dX5_alu_108 ?_
            refine lv_iload hx hb dX5_alu_109 (lv_at hl 1 rfl) ?_
            refine lv_isub hx hb dX5_alu_111 ?_
            refine lv_istore (lv' := [(5, .int _), (4, .int _), (3, .int _), (0, .ref _), (1, .int _), (2, .int _)]) hx hb dX5_alu_112 hl (by decide) rfl (fun ls hl => ?_)
            refine lv_aload_n hx hb dX5_alu_114 rfl (lv_at hl 3 rfl) ?_
            refine lv_iload_n hx hb dX5_alu_115 rfl (lv_at hl 2 rfl) ?_
            refine lv_bipush (v := 15) hx hb dX5_alu_116 (by decide) ?_
            refine lv_iand hx hb dX5_alu_118 ?_
            refine lv_iload_n hx hb dX5_alu_119 rfl (lv_at hl 5 rfl) ?_
            refine lv_iconst (v := -1) hx hb dX5_alu_120 (by decide) ?_
            refine lv_ixor hx hb dX5_alu_121 ?_
            refine lv_bipush (v := 15) hx hb dX5_alu_122 (by decide) ?_
            refine lv_iand hx hb dX5_alu_124 ?_
            refine lv_iadd hx hb dX5_alu_125 ?_
            refine lv_iconst (v := 1) hx hb dX5_alu_126 (by decide) ?_
            refine lv_iadd hx hb dX5_alu_127 ?_
            refine lv_iload hx hb dX5_alu_128 (lv_at hl 1 rfl) ?_
            refine lv_isub hx hb dX5_alu_130 ?_
            refine lv_bipush (v := 15) hx hb dX5_alu_131 (by decide) ?_
            refine lv_icmp_le (tgt := 140) hx hb dX5_alu_133 (by decide) (fun c_47 => ?_) (fun c_47 => ?_)
            · refine lv_iconst (v := 0) hx hb dX5_alu_140 (by decide) ?_
              refine pu_R_f14 (v := (0 : Int32)) hx hb hts hi5 hown hK hP hD hS (hts (.fieldLink RX5 63 "InvaderBoardModel" "half" "I") (List.mem_cons_of_mem _ (List.mem_append_left _ (List.mem_of_getElem? (i := 2) rfl)))) dX5_alu_141 (fun H locs hP hD hS => ?_)
              refine lv_aload_n hx hb dX5_alu_144 rfl (lv_at hl 3 rfl) ?_
              refine lv_iload hx hb dX5_alu_145 (lv_at hl 0 rfl) ?_
              refine lv_if_ge (tgt := 154) hx hb dX5_alu_147 (by decide) (fun c_48 => ?_) (fun c_48 => ?_)
              · refine lv_iconst (v := 0) hx hb dX5_alu_154 (by decide) ?_
                refine pu_R_f16 (v := (0 : Int32)) hx hb hts hi5 hown hK hP hD hS (hts (.fieldLink RX5 66 "InvaderBoardModel" "carry" "I") (List.mem_cons_of_mem _ (List.mem_append_left _ (List.mem_of_getElem? (i := 1) rfl)))) dX5_alu_155 (fun H locs hP hD hS => ?_)
                refine lv_goto (tgt := 213) hx hb dX5_alu_158 (by decide) ?_
                refine lv_aload_n hx hb dX5_alu_213 rfl (lv_at hl 3 rfl) ?_
                refine lv_iload hx hb dX5_alu_214 (lv_at hl 0 rfl) ?_
                refine lv_sipush (v := 255) hx hb dX5_alu_216 (by decide) ?_
                refine lv_iand hx hb dX5_alu_219 ?_
                refine KC.callv (ci := 5) (rest := []) (wt := wR cI o (rSigns (upd (upd f 14 (0 : Int32)) 16 (0 : Int32)) a (((((a 2) (7 : Int32).toNatClampNeg) - p2) - (f 16)) &&& (255 : Int32))) a) (kX5_signs l D cI o (upd (upd f 14 (0 : Int32)) 16 (0 : Int32)) a (((((a 2) (7 : Int32).toNatClampNeg) - p2) - (f 16)) &&& (255 : Int32))) (cwV 1 hts gX5_alu_X5_signs rfl rfl rfl (by decide +kernel) ⟨Nat.le_of_ble_eq_true rfl, Nat.le_of_ble_eq_true rfl⟩) ⟨hx, hb, hml, hown, hts⟩ hK hP hD hS hA rfl rfl rfl [0, 1, 2, 3, 4, 5, 6] [] [0, 1, 2, 3, 4, 5, 6] (by decide) rfl (wr := []) rfl (by decide) (by decide) (by decide) rfl rfl hl.1 rfl (Nat.le_of_ble_eq_true rfl) dX5_alu_220 ⟨Nat.zero_le _, Nat.zero_le _⟩ (fun H locs hP hD hS => ?_)
                refine lv_iload_n hx hb dX5_alu_223 rfl (lv_at hl 4 rfl) ?_
                refine lv_bipush (v := 7) hx hb dX5_alu_224 (by decide) ?_
                refine lv_icmp_ge (tgt := 242) hx hb dX5_alu_226 (by decide) (fun c_49 => ?_) (fun c_49 => ?_)
                · exact absurd c_49 (by rw [c_10]; decide)
                · refine lv_aload_n hx hb dX5_alu_229 rfl (lv_at hl 3 rfl) ?_
                  refine va_get (ci := 5) (v := .ref (o 23)) (C := RX5) (T := TX5) (N := 24) hx hb hts hi5 hown hK hP 0 rfl rfl 3 (by decide) (hts (.fieldLink RX5 16 "InvaderBoardModel" "reg" "[I") (List.mem_cons_of_mem _ (List.mem_append_left _ (List.mem_of_getElem? (i := 0) rfl)))) (fun _ h9 => h9) rfl dX5_alu_230 ?_
                  refine lv_bipush (v := 7) hx hb dX5_alu_233 (by decide) ?_
                  refine lv_iload hx hb dX5_alu_235 (lv_at hl 0 rfl) ?_
                  refine lv_sipush (v := 255) hx hb dX5_alu_237 (by decide) ?_
                  refine lv_iand hx hb dX5_alu_240 ?_
                  refine pu_R_a2 hx hb hK hP hD hS (by unfold vp_in; decide) dX5_alu_241 (fun H locs hP hD hS => ?_)
                  have hF : rAlu f a p1 p2 = (rSigns (upd (upd f 14 (0 : Int32)) 16 (0 : Int32)) a (((((a 2) (7 : Int32).toNatClampNeg) - p2) - (f 16)) &&& (255 : Int32)), ua a 2 (upd (a 2) (7 : Int32).toNatClampNeg (((((a 2) (7 : Int32).toNatClampNeg) - p2) - (f 16)) &&& (255 : Int32)))) := by
                    unfold rAlu
                    refine (if_neg c_1).trans ?_
                    refine (if_pos c_10).trans ?_
                    refine (if_pos c_47).trans ?_
                    refine (if_pos c_48).trans ?_
                    rfl
                  rw [hF]
                  exact KC.retv hx hb hr hlocks hK hP hD hS dX5_alu_242
              · refine lv_iconst (v := 1) hx hb dX5_alu_150 (by decide) ?_
                refine lv_goto (tgt := 155) hx hb dX5_alu_151 (by decide) ?_
                refine pu_R_f16 (v := (1 : Int32)) hx hb hts hi5 hown hK hP hD hS (hts (.fieldLink RX5 66 "InvaderBoardModel" "carry" "I") (List.mem_cons_of_mem _ (List.mem_append_left _ (List.mem_of_getElem? (i := 1) rfl)))) dX5_alu_155 (fun H locs hP hD hS => ?_)
                refine lv_goto (tgt := 213) hx hb dX5_alu_158 (by decide) ?_
                refine lv_aload_n hx hb dX5_alu_213 rfl (lv_at hl 3 rfl) ?_
                refine lv_iload hx hb dX5_alu_214 (lv_at hl 0 rfl) ?_
                refine lv_sipush (v := 255) hx hb dX5_alu_216 (by decide) ?_
                refine lv_iand hx hb dX5_alu_219 ?_
                refine KC.callv (ci := 5) (rest := []) (wt := wR cI o (rSigns (upd (upd f 14 (0 : Int32)) 16 (1 : Int32)) a (((((a 2) (7 : Int32).toNatClampNeg) - p2) - (f 16)) &&& (255 : Int32))) a) (kX5_signs l D cI o (upd (upd f 14 (0 : Int32)) 16 (1 : Int32)) a (((((a 2) (7 : Int32).toNatClampNeg) - p2) - (f 16)) &&& (255 : Int32))) (cwV 1 hts gX5_alu_X5_signs rfl rfl rfl (by decide +kernel) ⟨Nat.le_of_ble_eq_true rfl, Nat.le_of_ble_eq_true rfl⟩) ⟨hx, hb, hml, hown, hts⟩ hK hP hD hS hA rfl rfl rfl [0, 1, 2, 3, 4, 5, 6] [] [0, 1, 2, 3, 4, 5, 6] (by decide) rfl (wr := []) rfl (by decide) (by decide) (by decide) rfl rfl hl.1 rfl (Nat.le_of_ble_eq_true rfl) dX5_alu_220 ⟨Nat.zero_le _, Nat.zero_le _⟩ (fun H locs hP hD hS => ?_)
                refine lv_iload_n hx hb dX5_alu_223 rfl (lv_at hl 4 rfl) ?_
                refine lv_bipush (v := 7) hx hb dX5_alu_224 (by decide) ?_
                refine lv_icmp_ge (tgt := 242) hx hb dX5_alu_226 (by decide) (fun c_50 => ?_) (fun c_50 => ?_)
                · exact absurd c_50 (by rw [c_10]; decide)
                · refine lv_aload_n hx hb dX5_alu_229 rfl (lv_at hl 3 rfl) ?_
                  refine va_get (ci := 5) (v := .ref (o 23)) (C := RX5) (T := TX5) (N := 24) hx hb hts hi5 hown hK hP 0 rfl rfl 3 (by decide) (hts (.fieldLink RX5 16 "InvaderBoardModel" "reg" "[I") (List.mem_cons_of_mem _ (List.mem_append_left _ (List.mem_of_getElem? (i := 0) rfl)))) (fun _ h9 => h9) rfl dX5_alu_230 ?_
                  refine lv_bipush (v := 7) hx hb dX5_alu_233 (by decide) ?_
                  refine lv_iload hx hb dX5_alu_235 (lv_at hl 0 rfl) ?_
                  refine lv_sipush (v := 255) hx hb dX5_alu_237 (by decide) ?_
                  refine lv_iand hx hb dX5_alu_240 ?_
                  refine pu_R_a2 hx hb hK hP hD hS (by unfold vp_in; decide) dX5_alu_241 (fun H locs hP hD hS => ?_)
                  have hF : rAlu f a p1 p2 = (rSigns (upd (upd f 14 (0 : Int32)) 16 (1 : Int32)) a (((((a 2) (7 : Int32).toNatClampNeg) - p2) - (f 16)) &&& (255 : Int32)), ua a 2 (upd (a 2) (7 : Int32).toNatClampNeg (((((a 2) (7 : Int32).toNatClampNeg) - p2) - (f 16)) &&& (255 : Int32)))) := by
                    unfold rAlu
                    refine (if_neg c_1).trans ?_
                    refine (if_pos c_10).trans ?_
                    refine (if_pos c_47).trans ?_
                    refine (if_neg c_48).trans ?_
                    rfl
                  rw [hF]
                  exact KC.retv hx hb hr hlocks hK hP hD hS dX5_alu_242
            · refine lv_iconst (v := 1) hx hb dX5_alu_136 (by decide) ?_
              refine lv_goto (tgt := 141) hx hb dX5_alu_137 (by decide) ?_
              refine pu_R_f14 (v := (1 : Int32)) hx hb hts hi5 hown hK hP hD hS (hts (.fieldLink RX5 63 "InvaderBoardModel" "half" "I") (List.mem_cons_of_mem _ (List.mem_append_left _ (List.mem_of_getElem? (i := 2) rfl)))) dX5_alu_141 (fun H locs hP hD hS => ?_)
              refine lv_aload_n hx hb dX5_alu_144 rfl (lv_at hl 3 rfl) ?_
              refine lv_iload hx hb dX5_alu_145 (lv_at hl 0 rfl) ?_
              refine lv_if_ge (tgt := 154) hx hb dX5_alu_147 (by decide) (fun c_51 => ?_) (fun c_51 => ?_)
              · refine lv_iconst (v := 0) hx hb dX5_alu_154 (by decide) ?_
                refine pu_R_f16 (v := (0 : Int32)) hx hb hts hi5 hown hK hP hD hS (hts (.fieldLink RX5 66 "InvaderBoardModel" "carry" "I") (List.mem_cons_of_mem _ (List.mem_append_left _ (List.mem_of_getElem? (i := 1) rfl)))) dX5_alu_155 (fun H locs hP hD hS => ?_)
                refine lv_goto (tgt := 213) hx hb dX5_alu_158 (by decide) ?_
                refine lv_aload_n hx hb dX5_alu_213 rfl (lv_at hl 3 rfl) ?_
                refine lv_iload hx hb dX5_alu_214 (lv_at hl 0 rfl) ?_
                refine lv_sipush (v := 255) hx hb dX5_alu_216 (by decide) ?_
                refine lv_iand hx hb dX5_alu_219 ?_
                refine KC.callv (ci := 5) (rest := []) (wt := wR cI o (rSigns (upd (upd f 14 (1 : Int32)) 16 (0 : Int32)) a (((((a 2) (7 : Int32).toNatClampNeg) - p2) - (f 16)) &&& (255 : Int32))) a) (kX5_signs l D cI o (upd (upd f 14 (1 : Int32)) 16 (0 : Int32)) a (((((a 2) (7 : Int32).toNatClampNeg) - p2) - (f 16)) &&& (255 : Int32))) (cwV 1 hts gX5_alu_X5_signs rfl rfl rfl (by decide +kernel) ⟨Nat.le_of_ble_eq_true rfl, Nat.le_of_ble_eq_true rfl⟩) ⟨hx, hb, hml, hown, hts⟩ hK hP hD hS hA rfl rfl rfl [0, 1, 2, 3, 4, 5, 6] [] [0, 1, 2, 3, 4, 5, 6] (by decide) rfl (wr := []) rfl (by decide) (by decide) (by decide) rfl rfl hl.1 rfl (Nat.le_of_ble_eq_true rfl) dX5_alu_220 ⟨Nat.zero_le _, Nat.zero_le _⟩ (fun H locs hP hD hS => ?_)
                refine lv_iload_n hx hb dX5_alu_223 rfl (lv_at hl 4 rfl) ?_
                refine lv_bipush (v := 7) hx hb dX5_alu_224 (by decide) ?_
                refine lv_icmp_ge (tgt := 242) hx hb dX5_alu_226 (by decide) (fun c_52 => ?_) (fun c_52 => ?_)
                · exact absurd c_52 (by rw [c_10]; decide)
                · refine lv_aload_n hx hb dX5_alu_229 rfl (lv_at hl 3 rfl) ?_
                  refine va_get (ci := 5) (v := .ref (o 23)) (C := RX5) (T := TX5) (N := 24) hx hb hts hi5 hown hK hP 0 rfl rfl 3 (by decide) (hts (.fieldLink RX5 16 "InvaderBoardModel" "reg" "[I") (List.mem_cons_of_mem _ (List.mem_append_left _ (List.mem_of_getElem? (i := 0) rfl)))) (fun _ h9 => h9) rfl dX5_alu_230 ?_
                  refine lv_bipush (v := 7) hx hb dX5_alu_233 (by decide) ?_
                  refine lv_iload hx hb dX5_alu_235 (lv_at hl 0 rfl) ?_
                  refine lv_sipush (v := 255) hx hb dX5_alu_237 (by decide) ?_
                  refine lv_iand hx hb dX5_alu_240 ?_
                  refine pu_R_a2 hx hb hK hP hD hS (by unfold vp_in; decide) dX5_alu_241 (fun H locs hP hD hS => ?_)
                  have hF : rAlu f a p1 p2 = (rSigns (upd (upd f 14 (1 : Int32)) 16 (0 : Int32)) a (((((a 2) (7 : Int32).toNatClampNeg) - p2) - (f 16)) &&& (255 : Int32)), ua a 2 (upd (a 2) (7 : Int32).toNatClampNeg (((((a 2) (7 : Int32).toNatClampNeg) - p2) - (f 16)) &&& (255 : Int32)))) := by
                    unfold rAlu
                    refine (if_neg c_1).trans ?_
                    refine (if_pos c_10).trans ?_
                    refine (if_neg c_47).trans ?_
                    refine (if_pos c_51).trans ?_
                    rfl
                  rw [hF]
                  exact KC.retv hx hb hr hlocks hK hP hD hS dX5_alu_242
              · refine lv_iconst (v := 1) hx hb dX5_alu_150 (by decide) ?_
                refine lv_goto (tgt := 155) hx hb dX5_alu_151 (by decide) ?_
                refine pu_R_f16 (v := (1 : Int32)) hx hb hts hi5 hown hK hP hD hS (hts (.fieldLink RX5 66 "InvaderBoardModel" "carry" "I") (List.mem_cons_of_mem _ (List.mem_append_left _ (List.mem_of_getElem? (i := 1) rfl)))) dX5_alu_155 (fun H locs hP hD hS => ?_)
                refine lv_goto (tgt := 213) hx hb dX5_alu_158 (by decide) ?_
                refine lv_aload_n hx hb dX5_alu_213 rfl (lv_at hl 3 rfl) ?_
                refine lv_iload hx hb dX5_alu_214 (lv_at hl 0 rfl) ?_
                refine lv_sipush (v := 255) hx hb dX5_alu_216 (by decide) ?_
                refine lv_iand hx hb dX5_alu_219 ?_
                refine KC.callv (ci := 5) (rest := []) (wt := wR cI o (rSigns (upd (upd f 14 (1 : Int32)) 16 (1 : Int32)) a (((((a 2) (7 : Int32).toNatClampNeg) - p2) - (f 16)) &&& (255 : Int32))) a) (kX5_signs l D cI o (upd (upd f 14 (1 : Int32)) 16 (1 : Int32)) a (((((a 2) (7 : Int32).toNatClampNeg) - p2) - (f 16)) &&& (255 : Int32))) (cwV 1 hts gX5_alu_X5_signs rfl rfl rfl (by decide +kernel) ⟨Nat.le_of_ble_eq_true rfl, Nat.le_of_ble_eq_true rfl⟩) ⟨hx, hb, hml, hown, hts⟩ hK hP hD hS hA rfl rfl rfl [0, 1, 2, 3, 4, 5, 6] [] [0, 1, 2, 3, 4, 5, 6] (by decide) rfl (wr := []) rfl (by decide) (by decide) (by decide) rfl rfl hl.1 rfl (Nat.le_of_ble_eq_true rfl) dX5_alu_220 ⟨Nat.zero_le _, Nat.zero_le _⟩ (fun H locs hP hD hS => ?_)
                refine lv_iload_n hx hb dX5_alu_223 rfl (lv_at hl 4 rfl) ?_
                refine lv_bipush (v := 7) hx hb dX5_alu_224 (by decide) ?_
                refine lv_icmp_ge (tgt := 242) hx hb dX5_alu_226 (by decide) (fun c_53 => ?_) (fun c_53 => ?_)
                · exact absurd c_53 (by rw [c_10]; decide)
                · refine lv_aload_n hx hb dX5_alu_229 rfl (lv_at hl 3 rfl) ?_
                  refine va_get (ci := 5) (v := .ref (o 23)) (C := RX5) (T := TX5) (N := 24) hx hb hts hi5 hown hK hP 0 rfl rfl 3 (by decide) (hts (.fieldLink RX5 16 "InvaderBoardModel" "reg" "[I") (List.mem_cons_of_mem _ (List.mem_append_left _ (List.mem_of_getElem? (i := 0) rfl)))) (fun _ h9 => h9) rfl dX5_alu_230 ?_
                  refine lv_bipush (v := 7) hx hb dX5_alu_233 (by decide) ?_
                  refine lv_iload hx hb dX5_alu_235 (lv_at hl 0 rfl) ?_
                  refine lv_sipush (v := 255) hx hb dX5_alu_237 (by decide) ?_
                  refine lv_iand hx hb dX5_alu_240 ?_
                  refine pu_R_a2 hx hb hK hP hD hS (by unfold vp_in; decide) dX5_alu_241 (fun H locs hP hD hS => ?_)
                  have hF : rAlu f a p1 p2 = (rSigns (upd (upd f 14 (1 : Int32)) 16 (1 : Int32)) a (((((a 2) (7 : Int32).toNatClampNeg) - p2) - (f 16)) &&& (255 : Int32)), ua a 2 (upd (a 2) (7 : Int32).toNatClampNeg (((((a 2) (7 : Int32).toNatClampNeg) - p2) - (f 16)) &&& (255 : Int32)))) := by
                    unfold rAlu
                    refine (if_neg c_1).trans ?_
                    refine (if_pos c_10).trans ?_
                    refine (if_neg c_47).trans ?_
                    refine (if_neg c_51).trans ?_
                    rfl
                  rw [hF]
                  exact KC.retv hx hb hr hlocks hK hP hD hS dX5_alu_242
          · exact absurd c_10 c_46
      · exact absurd c_44 (by rw [c_10]; decide)
