def rParity (on : Int32) : Int32 := if on - on / (2 : Int32) * (2 : Int32) = 0 then (1 : Int32) else (0 : Int32)
def rOnes (p1 : Int32) : Nat → Nat → Int32 → Int32
  | 0, _, on => on
  | n + 1, k, on => rOnes p1 n (k + 1) (on + ((p1 >>> ((nI k) &&& 31)) &&& (1 : Int32)))
set_option maxHeartbeats 4000000 in
set_option maxRecDepth 100000 in
theorem lpX5_signs {l : Launch} {D : va_G} {cI : ClassId} {o : Nat → Nat} {f : Nat → Int32} {a : Nat → Nat → Int32} {p1 : Int32} {p : Program} {e : Env} {s : State} {m : MethodId} {args : Array Value} {below : List Frame} {meth : Method} {c : Code} {A : Nat → Prop} (hx : p.tables.exec = Jvm.exec) (hb : c.code = cX5_signs) (hr : meth.sig.returnType = none) (hts : ∀ w ∈ wsX5_signs, w.before args s = true) (hown : s.vm.findClass RX5 = some m.cls) (hlocks : meth.locks = false) (hml : c.maxLocals = 4) (hK : va_K D vwCl [(cI, .int)] s) (hA : ∀ q : Nat, s.heap.size ≤ q → A q) :
    ∀ (n k : Nat), k + n = 8 → ∀ (on : Int32), ∀ (H : Heap) (locs : List Loc), va_P D vwCl (wR cI o f a) H → va_D A (wR cI o f a) → va_S A s.heap H locs → ∀ ls : Array Slot, lv_has ls 4 [(3, .int (nI k)), (2, .int on), (0, .ref (o 20)), (1, .int p1)] → W p l e (rmD 0) s m args below meth c H locs 0 0 (MQ below (kq_ D cI none (wR cI o (upd f 15 (rParity (rOnes p1 n k on))) a) A) args s 0 0 A) (F0 m 31 ls []) := by
  have hi5 : ∀ w ∈ u_ws RX5 TX5 24, w ∈ wsX5_signs := fun w h => List.mem_cons_of_mem _ (List.mem_append_right _ h)
  intro n
  induction n with
  | zero =>
    intro k hk on H locs hP hD hS ls hl
    obtain rfl : k = 8 := by omega
    refine lv_iload_n hx hb dX5_signs_31 rfl (lv_at hl 0 rfl) ?_
    refine lv_bipush (v := 8) hx hb dX5_signs_32 (by decide) ?_
    refine lv_icmp_ge (tgt := 51) hx hb dX5_signs_34 (by decide) (fun c_1 => ?_) (fun c_1 => ?_)
    · refine lv_aload_n hx hb dX5_signs_51 rfl (lv_at hl 2 rfl) ?_
      refine lv_iload_n hx hb dX5_signs_52 rfl (lv_at hl 1 rfl) ?_
      refine lv_iconst (v := 2) hx hb dX5_signs_53 (by decide) ?_
      refine lv_irem hx hb dX5_signs_54 (by decide) ?_
      refine lv_if_ne (tgt := 62) hx hb dX5_signs_55 (by decide) (fun c_2 => ?_) (fun c_2 => ?_)
      · refine lv_iconst (v := 0) hx hb dX5_signs_62 (by decide) ?_
        refine pu_R_f15 (v := (0 : Int32)) hx hb hts hi5 hown hK hP hD hS (hts (.fieldLink RX5 60 "InvaderBoardModel" "parity" "I") (List.mem_cons_of_mem _ (List.mem_append_left _ (List.mem_of_getElem? (i := 2) rfl)))) dX5_signs_63 (fun H locs hP hD hS => ?_)
        have hF : rParity on = (0 : Int32) := by simp only [rParity, if_neg c_2]
        rw [show rOnes p1 0 8 on = on from rfl, hF]
        exact KC.retv hx hb hr hlocks hK hP hD hS dX5_signs_66
      · refine lv_iconst (v := 1) hx hb dX5_signs_58 (by decide) ?_
        refine lv_goto (tgt := 63) hx hb dX5_signs_59 (by decide) ?_
        refine pu_R_f15 (v := (1 : Int32)) hx hb hts hi5 hown hK hP hD hS (hts (.fieldLink RX5 60 "InvaderBoardModel" "parity" "I") (List.mem_cons_of_mem _ (List.mem_append_left _ (List.mem_of_getElem? (i := 2) rfl)))) dX5_signs_63 (fun H locs hP hD hS => ?_)
        have hF : rParity on = (1 : Int32) := by simp only [rParity, if_pos c_2]
        rw [show rOnes p1 0 8 on = on from rfl, hF]
        exact KC.retv hx hb hr hlocks hK hP hD hS dX5_signs_66
    · exact absurd (show (8 : Int32) ≤ nI 8 by decide) c_1
  | succ n ih =>
    intro k hk on H locs hP hD hS ls hl
    refine lv_iload_n hx hb dX5_signs_31 rfl (lv_at hl 0 rfl) ?_
    refine lv_bipush (v := 8) hx hb dX5_signs_32 (by decide) ?_
    refine lv_icmp_ge (tgt := 51) hx hb dX5_signs_34 (by decide) (fun c_3 => ?_) (fun c_3 => ?_)
    · exact absurd c_3 (show ¬ nI 8 ≤ nI k from nI_ge (by omega) (by decide))
    · refine lv_iload_n hx hb dX5_signs_37 rfl (lv_at hl 1 rfl) ?_
      refine lv_iload_n hx hb dX5_signs_38 rfl (lv_at hl 3 rfl) ?_
      refine lv_iload_n hx hb dX5_signs_39 rfl (lv_at hl 0 rfl) ?_
      refine lv_ishr hx hb dX5_signs_40 ?_
      refine lv_iconst (v := 1) hx hb dX5_signs_41 (by decide) ?_
      refine lv_iand hx hb dX5_signs_42 ?_
      refine lv_iadd hx hb dX5_signs_43 ?_
      refine lv_istore_n (lv' := [(2, .int _), (3, .int _), (0, .ref _), (1, .int _)]) hx hb dX5_signs_44 rfl hl (by decide) rfl (fun ls hl => ?_)
      refine lv_iinc (v := (nI k) + (1 : Int32)) (lv' := [(3, .int _), (2, .int _), (0, .ref _), (1, .int _)]) hx hb dX5_signs_45 hl (k := 1) rfl rfl (by decide) rfl (fun ls hl => ?_)
      refine lv_goto (tgt := 31) hx hb dX5_signs_48 (by decide) ?_
      rw [nI_1] at hl
      exact ih (k + 1) (by omega) _ H locs hP hD hS ls (lv_sub hl [0, 1, 2, 3] rfl)
def rSigns (f : Nat → Int32) (a : Nat → Nat → Int32) (p1 : Int32) : (Nat → Int32) :=
  if p1 &&& (255 : Int32) = 0 then upd (upd (upd f 12 ((p1 >>> ((7 : Int32) &&& 31)) &&& (1 : Int32))) 13 (1 : Int32)) 15 (rParity (rOnes p1 8 0 (0 : Int32)))
  else upd (upd (upd f 12 ((p1 >>> ((7 : Int32) &&& 31)) &&& (1 : Int32))) 13 (0 : Int32)) 15 (rParity (rOnes p1 8 0 (0 : Int32)))
set_option maxHeartbeats 4000000 in
set_option maxRecDepth 100000 in
theorem kX5_signs (l : Launch) (D : va_G) (cI : ClassId) (o : Nat → Nat) (f : Nat → Int32) (a : Nat → Nat → Int32) (p1 : Int32) : KC l yX5_signs wsX5_signs 0 [.ref (o 20), .int p1] D cI (wR cI o f a) (wR cI o (rSigns f a p1) a) none := by
  refine KC.of (cc := cX5_signs) (maxL := 4) (by decide) rfl (Nat.le_of_ble_eq_true rfl) ?_
  intro p e s m below meth c A hx hb hr hts hown hlocks hml hK hP hD hS hA ls hl
  have hl : lv_has ls 4 [(0, .ref (o 20)), (1, .int p1)] := hl
  have hown : s.vm.findClass RX5 = some m.cls := hown
  have hi5 : ∀ w ∈ u_ws RX5 TX5 24, w ∈ wsX5_signs := fun w h => List.mem_cons_of_mem _ (List.mem_append_right _ h)
  refine lv_aload_n hx hb dX5_signs_0 rfl (lv_at hl 0 rfl) ?_
  refine lv_iload_n hx hb dX5_signs_1 rfl (lv_at hl 1 rfl) ?_
  refine lv_bipush (v := 7) hx hb dX5_signs_2 (by decide) ?_
  refine lv_ishr hx hb dX5_signs_4 ?_
  refine lv_iconst (v := 1) hx hb dX5_signs_5 (by decide) ?_
  refine lv_iand hx hb dX5_signs_6 ?_
  refine pu_R_f12 (v := (p1 >>> ((7 : Int32) &&& 31)) &&& (1 : Int32)) hx hb hts hi5 hown hK hP hD hS (hts (.fieldLink RX5 54 "InvaderBoardModel" "sign" "I") (List.mem_cons_of_mem _ (List.mem_append_left _ (List.mem_of_getElem? (i := 0) rfl)))) dX5_signs_7 (fun H locs hP hD hS => ?_)
  refine lv_aload_n hx hb dX5_signs_10 rfl (lv_at hl 0 rfl) ?_
  refine lv_iload_n hx hb dX5_signs_11 rfl (lv_at hl 1 rfl) ?_
  refine lv_sipush (v := 255) hx hb dX5_signs_12 (by decide) ?_
  refine lv_iand hx hb dX5_signs_15 ?_
  refine lv_if_ne (tgt := 23) hx hb dX5_signs_16 (by decide) (fun c_1 => ?_) (fun c_1 => ?_)
  · refine lv_iconst (v := 0) hx hb dX5_signs_23 (by decide) ?_
    refine pu_R_f13 (v := (0 : Int32)) hx hb hts hi5 hown hK hP hD hS (hts (.fieldLink RX5 57 "InvaderBoardModel" "zero" "I") (List.mem_cons_of_mem _ (List.mem_append_left _ (List.mem_of_getElem? (i := 1) rfl)))) dX5_signs_24 (fun H locs hP hD hS => ?_)
    refine lv_iconst (v := 0) hx hb dX5_signs_27 (by decide) ?_
    refine lv_istore_n (lv' := [(2, .int _), (0, .ref _), (1, .int _)]) hx hb dX5_signs_28 rfl hl (by decide) rfl (fun ls hl => ?_)
    refine lv_iconst (v := 0) hx hb dX5_signs_29 (by decide) ?_
    refine lv_istore_n (lv' := [(3, .int _), (2, .int _), (0, .ref _), (1, .int _)]) hx hb dX5_signs_30 rfl hl (by decide) rfl (fun ls hl => ?_)
    have hF : rSigns f a p1 = upd (upd (upd f 12 ((p1 >>> ((7 : Int32) &&& 31)) &&& (1 : Int32))) 13 (0 : Int32)) 15 (rParity (rOnes p1 8 0 (0 : Int32))) := by
      unfold rSigns
      refine (if_neg c_1).trans ?_
      rfl
    rw [hF]
    exact lpX5_signs hx hb hr hts hown hlocks hml hK hA 8 0 (by omega) (0 : Int32) _ _ hP hD hS ls (lv_sub hl [0, 1, 2, 3] rfl)
  · refine lv_iconst (v := 1) hx hb dX5_signs_19 (by decide) ?_
    refine lv_goto (tgt := 24) hx hb dX5_signs_20 (by decide) ?_
    refine pu_R_f13 (v := (1 : Int32)) hx hb hts hi5 hown hK hP hD hS (hts (.fieldLink RX5 57 "InvaderBoardModel" "zero" "I") (List.mem_cons_of_mem _ (List.mem_append_left _ (List.mem_of_getElem? (i := 1) rfl)))) dX5_signs_24 (fun H locs hP hD hS => ?_)
    refine lv_iconst (v := 0) hx hb dX5_signs_27 (by decide) ?_
    refine lv_istore_n (lv' := [(2, .int _), (0, .ref _), (1, .int _)]) hx hb dX5_signs_28 rfl hl (by decide) rfl (fun ls hl => ?_)
    refine lv_iconst (v := 0) hx hb dX5_signs_29 (by decide) ?_
    refine lv_istore_n (lv' := [(3, .int _), (2, .int _), (0, .ref _), (1, .int _)]) hx hb dX5_signs_30 rfl hl (by decide) rfl (fun ls hl => ?_)
    have hF : rSigns f a p1 = upd (upd (upd f 12 ((p1 >>> ((7 : Int32) &&& 31)) &&& (1 : Int32))) 13 (1 : Int32)) 15 (rParity (rOnes p1 8 0 (0 : Int32))) := by
      unfold rSigns
      refine (if_pos c_1).trans ?_
      rfl
    rw [hF]
    exact lpX5_signs hx hb hr hts hown hlocks hml hK hA 8 0 (by omega) (0 : Int32) _ _ hP hD hS ls (lv_sub hl [0, 1, 2, 3] rfl)
