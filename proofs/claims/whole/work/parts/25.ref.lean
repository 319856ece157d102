def rLitI (f : Nat → Int32) (a : Nat → Nat → Int32) (p1 p2 p3 p4 x6 : Int32) : Nat → Nat → Int32 → Int32
  | 0, _, sm => sm
  | n + 1, k, sm => rLitI f a p1 p2 p3 p4 x6 n (k + 1) (if x6 < p1 then sm + (0 : Int32)
  else if 0 ≤ (lg_cmp x6.toInt64 (p1.toInt64 + p3.toInt64)) then sm + (0 : Int32)
    else if (nI k) < p2 then sm + (0 : Int32)
      else if 0 ≤ (lg_cmp ((nI k).toInt64) (p2.toInt64 + p4.toInt64)) then sm + (0 : Int32)
        else sm + (rBit f a x6 (nI k)))
set_option maxHeartbeats 4000000 in
set_option maxRecDepth 100000 in
theorem lpX5_litI {l : Launch} {D : va_G} {cI : ClassId} {o : Nat → Nat} {f : Nat → Int32} {a : Nat → Nat → Int32} {p1 p2 p3 p4 x6 : Int32} {p : Program} {e : Env} {s : State} {m : MethodId} {args : Array Value} {below : List Frame} {meth : Method} {c : Code} {A : Nat → Prop} {Q : State → Prop} (hx : p.tables.exec = Jvm.exec) (hb : c.code = cX5_lit) (hr : meth.sig.returnType = (some .int)) (hts : ∀ w ∈ wsX5_lit, w.before args s = true) (hown : s.vm.findClass RX5 = some m.cls) (hlocks : meth.locks = false) (hml : c.maxLocals = 8) (hK : va_K D vwCl [(cI, .int)] s) (hA : ∀ q : Nat, s.heap.size ≤ q → A q) (h6 : vp_in x6 224) :
    ∀ (n k : Nat), k + n = 256 → ∀ (sm : Int32), (∀ (H : Heap) (locs : List Loc), va_P D vwCl (wR cI o f a) H → va_D A (wR cI o f a) → va_S A s.heap H locs → ∀ ls : Array Slot, lv_has ls 8 [(6, .int x6), (5, .int (rLitI f a p1 p2 p3 p4 x6 n k sm)), (0, .ref (o 20)), (1, .int p1), (2, .int p2), (3, .int p3), (4, .int p4)] → W p l e (rmD 1) s m args below meth c H locs 0 0 Q (F0 m 90 ls [])) → ∀ (H : Heap) (locs : List Loc), va_P D vwCl (wR cI o f a) H → va_D A (wR cI o f a) → va_S A s.heap H locs → ∀ ls : Array Slot, lv_has ls 8 [(7, .int (nI k)), (6, .int x6), (5, .int sm), (0, .ref (o 20)), (1, .int p1), (2, .int p2), (3, .int p3), (4, .int p4)] → W p l e (rmD 1) s m args below meth c H locs 0 0 Q (F0 m 22 ls []) := by
  intro n
  induction n with
  | zero =>
    intro k hk sm kk H locs hP hD hS ls hl
    obtain rfl : k = 256 := by omega
    refine lv_iload hx hb dX5_lit_22 (lv_at hl 0 rfl) ?_
    refine lv_sipush (v := 256) hx hb dX5_lit_24 (by decide) ?_
    refine lv_icmp_ge (tgt := 90) hx hb dX5_lit_27 (by decide) (fun c_1 => ?_) (fun c_1 => ?_)
    · exact kk H locs hP hD hS ls (lv_sub hl [1, 2, 3, 4, 5, 6, 7] rfl)
    · exact absurd (show (256 : Int32) ≤ nI 256 by decide) c_1
  | succ n ih =>
    intro k hk sm kk H locs hP hD hS ls hl
    refine lv_iload hx hb dX5_lit_22 (lv_at hl 0 rfl) ?_
    refine lv_sipush (v := 256) hx hb dX5_lit_24 (by decide) ?_
    refine lv_icmp_ge (tgt := 90) hx hb dX5_lit_27 (by decide) (fun c_2 => ?_) (fun c_2 => ?_)
    · exact absurd c_2 (show ¬ nI 256 ≤ nI k from nI_ge (by omega) (by decide))
    · refine lv_iload hx hb dX5_lit_30 (lv_at hl 2 rfl) ?_
      refine lv_iload hx hb dX5_lit_32 (lv_at hl 1 rfl) ?_
      refine lv_iload_n hx hb dX5_lit_34 rfl (lv_at hl 4 rfl) ?_
      refine lv_icmp_lt (tgt := 80) hx hb dX5_lit_35 (by decide) (fun c_3 => ?_) (fun c_3 => ?_)
      · refine lv_iconst (v := 0) hx hb dX5_lit_80 (by decide) ?_
        refine lv_iadd hx hb dX5_lit_81 ?_
        refine lv_istore (lv' := [(5, .int _), (7, .int _), (6, .int _), (0, .ref _), (1, .int _), (2, .int _), (3, .int _), (4, .int _)]) hx hb dX5_lit_82 hl (by decide) rfl (fun ls hl => ?_)
        refine lv_iinc (v := (nI k) + (1 : Int32)) (lv' := [(7, .int _), (5, .int _), (6, .int _), (0, .ref _), (1, .int _), (2, .int _), (3, .int _), (4, .int _)]) hx hb dX5_lit_84 hl (k := 1) rfl rfl (by decide) rfl (fun ls hl => ?_)
        refine lv_goto (tgt := 22) hx hb dX5_lit_87 (by decide) ?_
        rw [nI_1] at hl
        have hF : rLitI f a p1 p2 p3 p4 x6 (n + 1) k sm = rLitI f a p1 p2 p3 p4 x6 n (k + 1) (sm + (0 : Int32)) := by
          rw [rLitI]
          refine congrArg (rLitI f a p1 p2 p3 p4 x6 n (k + 1)) ?_
          refine (if_pos c_3).trans ?_
          rfl
        rw [hF] at kk
        exact ih (k + 1) (by omega) _ kk H locs hP hD hS ls (lv_sub hl [0, 2, 1, 3, 4, 5, 6, 7] rfl)
      · refine lv_iload hx hb dX5_lit_38 (lv_at hl 1 rfl) ?_
        refine lv_i2l hx hb dX5_lit_40 rfl ?_
        refine lv_iload_n hx hb dX5_lit_41 rfl (lv_at hl 4 rfl) ?_
        refine lv_i2l hx hb dX5_lit_42 rfl ?_
        refine lv_iload_n hx hb dX5_lit_43 rfl (lv_at hl 6 rfl) ?_
        refine lv_i2l hx hb dX5_lit_44 rfl ?_
        refine lv_ladd hx hb dX5_lit_45 ?_
        refine W.lcmp hx hb dX5_lit_46 ?_
        refine lv_if_ge (tgt := 80) hx hb dX5_lit_47 (by decide) (fun c_4 => ?_) (fun c_4 => ?_)
        · refine lv_iconst (v := 0) hx hb dX5_lit_80 (by decide) ?_
          refine lv_iadd hx hb dX5_lit_81 ?_
          refine lv_istore (lv' := [(5, .int _), (7, .int _), (6, .int _), (0, .ref _), (1, .int _), (2, .int _), (3, .int _), (4, .int _)]) hx hb dX5_lit_82 hl (by decide) rfl (fun ls hl => ?_)
          refine lv_iinc (v := (nI k) + (1 : Int32)) (lv' := [(7, .int _), (5, .int _), (6, .int _), (0, .ref _), (1, .int _), (2, .int _), (3, .int _), (4, .int _)]) hx hb dX5_lit_84 hl (k := 1) rfl rfl (by decide) rfl (fun ls hl => ?_)
          refine lv_goto (tgt := 22) hx hb dX5_lit_87 (by decide) ?_
          rw [nI_1] at hl
          have hF : rLitI f a p1 p2 p3 p4 x6 (n + 1) k sm = rLitI f a p1 p2 p3 p4 x6 n (k + 1) (sm + (0 : Int32)) := by
            rw [rLitI]
            refine congrArg (rLitI f a p1 p2 p3 p4 x6 n (k + 1)) ?_
            refine (if_neg c_3).trans ?_
            refine (if_pos c_4).trans ?_
            rfl
          rw [hF] at kk
          exact ih (k + 1) (by omega) _ kk H locs hP hD hS ls (lv_sub hl [0, 2, 1, 3, 4, 5, 6, 7] rfl)
        · refine lv_iload hx hb dX5_lit_50 (lv_at hl 0 rfl) ?_
          refine lv_iload_n hx hb dX5_lit_52 rfl (lv_at hl 5 rfl) ?_
          refine lv_icmp_lt (tgt := 80) hx hb dX5_lit_53 (by decide) (fun c_5 => ?_) (fun c_5 => ?_)
          · refine lv_iconst (v := 0) hx hb dX5_lit_80 (by decide) ?_
            refine lv_iadd hx hb dX5_lit_81 ?_
            refine lv_istore (lv' := [(5, .int _), (7, .int _), (6, .int _), (0, .ref _), (1, .int _), (2, .int _), (3, .int _), (4, .int _)]) hx hb dX5_lit_82 hl (by decide) rfl (fun ls hl => ?_)
            refine lv_iinc (v := (nI k) + (1 : Int32)) (lv' := [(7, .int _), (5, .int _), (6, .int _), (0, .ref _), (1, .int _), (2, .int _), (3, .int _), (4, .int _)]) hx hb dX5_lit_84 hl (k := 1) rfl rfl (by decide) rfl (fun ls hl => ?_)
            refine lv_goto (tgt := 22) hx hb dX5_lit_87 (by decide) ?_
            rw [nI_1] at hl
            have hF : rLitI f a p1 p2 p3 p4 x6 (n + 1) k sm = rLitI f a p1 p2 p3 p4 x6 n (k + 1) (sm + (0 : Int32)) := by
              rw [rLitI]
              refine congrArg (rLitI f a p1 p2 p3 p4 x6 n (k + 1)) ?_
              refine (if_neg c_3).trans ?_
              refine (if_neg c_4).trans ?_
              refine (if_pos c_5).trans ?_
              rfl
            rw [hF] at kk
            exact ih (k + 1) (by omega) _ kk H locs hP hD hS ls (lv_sub hl [0, 2, 1, 3, 4, 5, 6, 7] rfl)
          · refine lv_iload hx hb dX5_lit_56 (lv_at hl 0 rfl) ?_
            refine lv_i2l hx hb dX5_lit_58 rfl ?_
            refine lv_iload_n hx hb dX5_lit_59 rfl (lv_at hl 5 rfl) ?_
            refine lv_i2l hx hb dX5_lit_60 rfl ?_
            refine lv_iload hx hb dX5_lit_61 (lv_at hl 7 rfl) ?_
            refine lv_i2l hx hb dX5_lit_63 rfl ?_
            refine lv_ladd hx hb dX5_lit_64 ?_
            refine W.lcmp hx hb dX5_lit_65 ?_
            refine lv_if_ge (tgt := 80) hx hb dX5_lit_66 (by decide) (fun c_6 => ?_) (fun c_6 => ?_)
            · refine lv_iconst (v := 0) hx hb dX5_lit_80 (by decide) ?_
              refine lv_iadd hx hb dX5_lit_81 ?_
              refine lv_istore (lv' := [(5, .int _), (7, .int _), (6, .int _), (0, .ref _), (1, .int _), (2, .int _), (3, .int _), (4, .int _)]) hx hb dX5_lit_82 hl (by decide) rfl (fun ls hl => ?_)
              refine lv_iinc (v := (nI k) + (1 : Int32)) (lv' := [(7, .int _), (5, .int _), (6, .int _), (0, .ref _), (1, .int _), (2, .int _), (3, .int _), (4, .int _)]) hx hb dX5_lit_84 hl (k := 1) rfl rfl (by decide) rfl (fun ls hl => ?_)
              refine lv_goto (tgt := 22) hx hb dX5_lit_87 (by decide) ?_
              rw [nI_1] at hl
              have hF : rLitI f a p1 p2 p3 p4 x6 (n + 1) k sm = rLitI f a p1 p2 p3 p4 x6 n (k + 1) (sm + (0 : Int32)) := by
                rw [rLitI]
                refine congrArg (rLitI f a p1 p2 p3 p4 x6 n (k + 1)) ?_
                refine (if_neg c_3).trans ?_
                refine (if_neg c_4).trans ?_
                refine (if_neg c_5).trans ?_
                refine (if_pos c_6).trans ?_
                rfl
              rw [hF] at kk
              exact ih (k + 1) (by omega) _ kk H locs hP hD hS ls (lv_sub hl [0, 2, 1, 3, 4, 5, 6, 7] rfl)
            · refine lv_aload_n hx hb dX5_lit_69 rfl (lv_at hl 3 rfl) ?_
              refine lv_iload hx hb dX5_lit_70 (lv_at hl 1 rfl) ?_
              refine lv_iload hx hb dX5_lit_72 (lv_at hl 0 rfl) ?_
              refine KC.calli (ci := 5) (rest := [.int sm]) (wt := wR cI o f a) (kX5_bit l D cI o f a x6 (nI k) h6 (vp_in_nI (by omega) (by decide))) (cwV 2 hts gX5_lit_X5_bit rfl rfl rfl (by decide +kernel) ⟨Nat.le_of_ble_eq_true rfl, Nat.le_of_ble_eq_true rfl⟩) ⟨hx, hb, hml, hown, hts⟩ hK hP hD hS hA rfl rfl rfl [0, 1, 2, 3, 4, 5, 6] [] [0, 1, 2, 3, 4, 5, 6] (by decide) rfl (wr := []) rfl (by decide) (by decide) (by decide) rfl rfl hl.1 rfl (Nat.le_of_ble_eq_true rfl) dX5_lit_74 ⟨Nat.zero_le _, Nat.zero_le _⟩ (fun H locs hP hD hS => ?_)
              refine lv_goto (tgt := 81) hx hb dX5_lit_77 (by decide) ?_
              refine lv_iadd hx hb dX5_lit_81 ?_
              refine lv_istore (lv' := [(5, .int _), (7, .int _), (6, .int _), (0, .ref _), (1, .int _), (2, .int _), (3, .int _), (4, .int _)]) hx hb dX5_lit_82 hl (by decide) rfl (fun ls hl => ?_)
              refine lv_iinc (v := (nI k) + (1 : Int32)) (lv' := [(7, .int _), (5, .int _), (6, .int _), (0, .ref _), (1, .int _), (2, .int _), (3, .int _), (4, .int _)]) hx hb dX5_lit_84 hl (k := 1) rfl rfl (by decide) rfl (fun ls hl => ?_)
              refine lv_goto (tgt := 22) hx hb dX5_lit_87 (by decide) ?_
              rw [nI_1] at hl
              have hF : rLitI f a p1 p2 p3 p4 x6 (n + 1) k sm = rLitI f a p1 p2 p3 p4 x6 n (k + 1) (sm + (rBit f a x6 (nI k))) := by
                rw [rLitI]
                refine congrArg (rLitI f a p1 p2 p3 p4 x6 n (k + 1)) ?_
                refine (if_neg c_3).trans ?_
                refine (if_neg c_4).trans ?_
                refine (if_neg c_5).trans ?_
                refine (if_neg c_6).trans ?_
                rfl
              rw [hF] at kk
              exact ih (k + 1) (by omega) _ kk H locs hP hD hS ls (lv_sub hl [0, 2, 1, 3, 4, 5, 6, 7] rfl)
def rLitO (f : Nat → Int32) (a : Nat → Nat → Int32) (p1 p2 p3 p4 : Int32) : Nat → Nat → Int32 → Int32
  | 0, _, sm => sm
  | n + 1, k, sm => rLitO f a p1 p2 p3 p4 n (k + 1) (rLitI f a p1 p2 p3 p4 (nI k) 256 0 sm)
set_option maxHeartbeats 4000000 in
set_option maxRecDepth 100000 in
theorem lpX5_litO {l : Launch} {D : va_G} {cI : ClassId} {o : Nat → Nat} {f : Nat → Int32} {a : Nat → Nat → Int32} {p1 p2 p3 p4 : Int32} {p : Program} {e : Env} {s : State} {m : MethodId} {args : Array Value} {below : List Frame} {meth : Method} {c : Code} {A : Nat → Prop} (hx : p.tables.exec = Jvm.exec) (hb : c.code = cX5_lit) (hr : meth.sig.returnType = (some .int)) (hts : ∀ w ∈ wsX5_lit, w.before args s = true) (hown : s.vm.findClass RX5 = some m.cls) (hlocks : meth.locks = false) (hml : c.maxLocals = 8) (hK : va_K D vwCl [(cI, .int)] s) (hA : ∀ q : Nat, s.heap.size ≤ q → A q) :
    ∀ (n k : Nat), k + n = 224 → ∀ (sm : Int32) (H : Heap) (locs : List Loc), va_P D vwCl (wR cI o f a) H → va_D A (wR cI o f a) → va_S A s.heap H locs → ∀ ls : Array Slot, lv_has ls 8 [(6, .int (nI k)), (5, .int sm), (0, .ref (o 20)), (1, .int p1), (2, .int p2), (3, .int p3), (4, .int p4)] → W p l e (rmD 1) s m args below meth c H locs 0 0 (MQ below (kq_ D cI (some (.int (rLitO f a p1 p2 p3 p4 n k sm))) (wR cI o f a) A) args s 0 0 A) (F0 m 11 ls []) := by
  intro n
  induction n with
  | zero =>
    intro k hk sm H locs hP hD hS ls hl
    obtain rfl : k = 224 := by omega
    refine lv_iload hx hb dX5_lit_11 (lv_at hl 0 rfl) ?_
    refine lv_sipush (v := 224) hx hb dX5_lit_13 (by decide) ?_
    refine lv_icmp_ge (tgt := 96) hx hb dX5_lit_16 (by decide) (fun c_1 => ?_) (fun c_1 => ?_)
    · refine lv_iload hx hb dX5_lit_96 (lv_at hl 1 rfl) ?_
      exact KC.reti hx hb hr hlocks hK hP hD hS dX5_lit_98 rfl
    · exact absurd (show (224 : Int32) ≤ nI 224 by decide) c_1
  | succ n ih =>
    intro k hk sm H locs hP hD hS ls hl
    refine lv_iload hx hb dX5_lit_11 (lv_at hl 0 rfl) ?_
    refine lv_sipush (v := 224) hx hb dX5_lit_13 (by decide) ?_
    refine lv_icmp_ge (tgt := 96) hx hb dX5_lit_16 (by decide) (fun c_2 => ?_) (fun c_2 => ?_)
    · exact absurd c_2 (show ¬ nI 224 ≤ nI k from nI_ge (by omega) (by decide))
    · refine lv_iconst (v := 0) hx hb dX5_lit_19 (by decide) ?_
      refine lv_istore (lv' := [(7, .int _), (6, .int _), (5, .int _), (0, .ref _), (1, .int _), (2, .int _), (3, .int _), (4, .int _)]) hx hb dX5_lit_20 hl (by decide) rfl (fun ls hl => ?_)
      refine lpX5_litI (x6 := nI k) hx hb hr hts hown hlocks hml hK hA (vp_in_nI (by omega) (by decide)) 256 0 (by omega) sm ?_ H locs hP hD hS ls (lv_sub hl [0, 1, 2, 3, 4, 5, 6, 7] rfl)
      intro H locs hP hD hS ls hl
      refine lv_iinc (v := nI (k + 1)) (lv' := [(6, .int _), (5, .int _), (0, .ref _), (1, .int _), (2, .int _), (3, .int _), (4, .int _)]) hx hb dX5_lit_90 hl (k := 0) rfl (nI_1 k) (by decide) rfl (fun ls hl => ?_)
      refine lv_goto (tgt := 11) hx hb dX5_lit_93 (by decide) ?_
      exact ih (k + 1) (by omega) _ H locs hP hD hS ls hl
def rLit (f : Nat → Int32) (a : Nat → Nat → Int32) (p1 : Int32) (p2 : Int32) (p3 : Int32) (p4 : Int32) : Int32 × (Nat → Int32) :=
  (rLitO (upd f 11 (0 : Int32)) a p1 p2 p3 p4 224 0 (0 : Int32), upd f 11 (0 : Int32))
set_option maxHeartbeats 4000000 in
set_option maxRecDepth 100000 in
theorem kX5_lit (l : Launch) (D : va_G) (cI : ClassId) (o : Nat → Nat) (f : Nat → Int32) (a : Nat → Nat → Int32) (p1 : Int32) (p2 : Int32) (p3 : Int32) (p4 : Int32) : KC l yX5_lit wsX5_lit 1 [.ref (o 20), .int p1, .int p2, .int p3, .int p4] D cI (wR cI o f a) (wR cI o ((rLit f a p1 p2 p3 p4).2) a) (some (.int (rLit f a p1 p2 p3 p4).1)) := by
  refine KC.of (cc := cX5_lit) (maxL := 8) (by decide) rfl (Nat.le_of_ble_eq_true rfl) ?_
  intro p e s m below meth c A hx hb hr hts hown hlocks hml hK hP hD hS hA ls hl
  have hl : lv_has ls 8 [(0, .ref (o 20)), (1, .int p1), (2, .int p2), (3, .int p3), (4, .int p4)] := hl
  have hown : s.vm.findClass RX5 = some m.cls := hown
  have hi5 : ∀ w ∈ u_ws RX5 TX5 24, w ∈ wsX5_lit := fun w h => List.mem_cons_of_mem _ (List.mem_append_right _ h)
  refine lv_aload_n hx hb dX5_lit_0 rfl (lv_at hl 0 rfl) ?_
  refine lv_iconst (v := 0) hx hb dX5_lit_1 (by decide) ?_
  refine pu_R_f11 (v := (0 : Int32)) hx hb hts hi5 hown hK hP hD hS (hts (.fieldLink RX5 28 "InvaderBoardModel" "code" "I") (List.mem_cons_of_mem _ (List.mem_append_left _ (List.mem_of_getElem? (i := 0) rfl)))) dX5_lit_2 (fun H locs hP hD hS => ?_)
  refine lv_iconst (v := 0) hx hb dX5_lit_5 (by decide) ?_
  refine lv_istore (lv' := [(5, .int _), (0, .ref _), (1, .int _), (2, .int _), (3, .int _), (4, .int _)]) hx hb dX5_lit_6 hl (by decide) rfl (fun ls hl => ?_)
  refine lv_iconst (v := 0) hx hb dX5_lit_8 (by decide) ?_
  refine lv_istore (lv' := [(6, .int _), (5, .int _), (0, .ref _), (1, .int _), (2, .int _), (3, .int _), (4, .int _)]) hx hb dX5_lit_9 hl (by decide) rfl (fun ls hl => ?_)
  have hF : rLit f a p1 p2 p3 p4 = (rLitO (upd f 11 (0 : Int32)) a p1 p2 p3 p4 224 0 (0 : Int32), upd f 11 (0 : Int32)) := rfl
  rw [hF]
  exact lpX5_litO hx hb hr hts hown hlocks hml hK hA 224 0 (by omega) (0 : Int32) _ _ hP hD hS ls (lv_sub hl [0, 1, 2, 3, 4, 5, 6] rfl)
